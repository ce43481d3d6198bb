set_option maxHeartbeats 2000000 in
theorem nK_le (B : Nat → Nat) (N lo hi : Nat) (ne : Int) (a : Nat) : nK B N lo hi ne a ≤ 2 := by
  unfold nK
  repeat' split
  all_goals omega
set_option maxHeartbeats 2000000 in
theorem num2 (K : Nat) (hK : 2000 ≤ K) {cb mb : Nat → Int32} {N : Nat} {B : Nat → Nat} (h : TX cb mb N B) {lo hi : Nat} (hlo : lo ≤ 500) (hhi : hi ≤ 500) {a : Nat} (ha : a ≤ 400) : (∃ v e s : Nat, lo ≤ v ∧ v ≤ hi ∧ a ≤ e ∧ e ≤ 400 ∧ (∀ st fp, sp_Tape_readNumber K (J lo) (J hi) cb (J N) (J a) st (J 0) fp = some (J v, J e, J s, J 0, fp)) ∧ ∀ fp, sp_M_number K (J lo) (J hi) (J (-1)) (J N) (J a) (J 0) fp mb = some (J v, J e, J 0, fp)) ∨ (∃ k p e s : Nat, (1 ≤ k ∧ k ≤ 3) ∧ e ≤ 400 ∧ (∀ st fp, sp_Tape_readNumber K (J lo) (J hi) cb (J N) (J a) st (J 0) fp = some (J lo, J e, J s, J k, J p)) ∧ ∀ fp, ∃ v, sp_M_number K (J lo) (J hi) (J (-1)) (J N) (J a) (J 0) fp mb = some (v, J e, J k, J p)) := by
  have hc := fun st fp => p_readNumber K hK h hlo hhi (a := a) (by omega) st fp
  have hm := fun fp => p_M_number K hK h hlo hhi (ne := -1) (by omega) (a := a) (by omega) fp
  have r1 := bl_rng B N a
  have r2 := en_rng 48 57 B N (bl B N a)
  have hN := h.1
  have hle := nK_le B N lo hi (-1) a
  by_cases h0 : nK B N lo hi (-1) a = 0
  · left
    have hv : lo ≤ nV B N a ∧ nV B N a ≤ hi := by
      unfold nK at h0
      split at h0
      · omega
      · split at h0
        · next hh => exact ⟨hh.1, hh.2.1⟩
        · omega
    refine ⟨nV B N a, de B N a, bl B N a, hv.1, hv.2, by unfold de; omega, by unfold de; omega, fun st fp => ?_, fun fp => ?_⟩
    · have := hc st fp
      simp only [if_pos h0] at this
      rw [h0] at this
      exact this
    · obtain ⟨v, x1, x2⟩ := hm fp
      rw [if_pos h0, h0] at x1
      rw [x2 h0] at x1
      exact x1
  · right
    refine ⟨nK B N lo hi (-1) a, bl B N a, de B N a, bl B N a, by omega, by unfold de; omega, fun st fp => ?_, fun fp => ?_⟩
    · have := hc st fp
      simp only [if_neg h0] at this
      exact this
    · obtain ⟨v, x1, x2⟩ := hm fp
      rw [if_neg h0] at x1
      exact ⟨v, x1⟩
set_option maxHeartbeats 2000000 in
theorem num3 (K : Nat) (hK : 2000 ≤ K) {cb mb : Nat → Int32} {N : Nat} {B : Nat → Nat} (h : TX cb mb N B) {lo hi : Nat} (hlo : lo ≤ 500) (hhi : hi ≤ 500) {ne : Nat} (hne : ne ≤ 500) {a : Nat} (ha : a ≤ 400) : (∃ v e s : Nat, lo ≤ v ∧ v ≤ hi ∧ v ≠ ne ∧ a ≤ e ∧ e ≤ 400 ∧ (∀ st fp, sp_Tape_readNumber K (J lo) (J hi) cb (J N) (J a) st (J 0) fp = some (J v, J e, J s, J 0, fp)) ∧ ∀ fp, sp_M_number K (J lo) (J hi) (J ne) (J N) (J a) (J 0) fp mb = some (J v, J e, J 0, fp)) ∨ (∃ e s : Nat, lo ≤ ne ∧ ne ≤ hi ∧ e ≤ 400 ∧ (∀ st fp, sp_Tape_readNumber K (J lo) (J hi) cb (J N) (J a) st (J 0) fp = some (J ne, J e, J s, J 0, fp)) ∧ ∀ fp, ∃ v, sp_M_number K (J lo) (J hi) (J ne) (J N) (J a) (J 0) fp mb = some (v, J e, J 2, J s)) ∨ (∃ k p e s : Nat, (1 ≤ k ∧ k ≤ 3) ∧ e ≤ 400 ∧ (∀ st fp, sp_Tape_readNumber K (J lo) (J hi) cb (J N) (J a) st (J 0) fp = some (J lo, J e, J s, J k, J p)) ∧ ∀ fp, ∃ v, sp_M_number K (J lo) (J hi) (J ne) (J N) (J a) (J 0) fp mb = some (v, J e, J k, J p)) := by
  have hc := fun st fp => p_readNumber K hK h hlo hhi (a := a) (by omega) st fp
  have hm := fun fp => p_M_number K hK h hlo hhi (ne := ne) (by omega) (a := a) (by omega) fp
  have r1 := bl_rng B N a
  have r2 := en_rng 48 57 B N (bl B N a)
  have hN := h.1
  have hle := nK_le B N lo hi (-1) a
  have hcmp : ∀ q : Int, nK B N lo hi q a = if de B N a = bl B N a then 1 else if lo ≤ nV B N a ∧ nV B N a ≤ hi ∧ (nV B N a : Int) ≠ q then 0 else 2 := fun q => rfl
  by_cases hd : de B N a = bl B N a
  · right; right
    have n1 : ∀ q, nK B N lo hi q a = 1 := fun q => by rw [hcmp, if_pos hd]
    refine ⟨1, bl B N a, de B N a, bl B N a, by omega, by unfold de; omega, fun st fp => ?_, fun fp => ?_⟩
    · have := hc st fp
      rw [n1 (-1)] at this
      exact this
    · obtain ⟨v, x1, x2⟩ := hm fp
      rw [n1 ne] at x1
      exact ⟨v, x1⟩
  · by_cases hv : lo ≤ nV B N a ∧ nV B N a ≤ hi
    · have n1 : nK B N lo hi (-1) a = 0 := by rw [hcmp, if_neg hd, if_pos ⟨hv.1, hv.2, by omega⟩]
      have hcc : ∀ st fp, sp_Tape_readNumber K (J lo) (J hi) cb (J N) (J a) st (J 0) fp = some (J (nV B N a : Nat), J (de B N a : Nat), J (bl B N a : Nat), J 0, fp) := fun st fp => by
        have := hc st fp
        rw [n1] at this
        exact this
      by_cases hn : nV B N a = ne
      · right; left
        have n2 : nK B N lo hi ne a = 2 := by rw [hcmp, if_neg hd, if_neg (by omega)]
        refine ⟨de B N a, bl B N a, by omega, by omega, by unfold de; omega, fun st fp => by rw [hcc, hn], fun fp => ?_⟩
        obtain ⟨v, x1, x2⟩ := hm fp
        rw [n2] at x1
        exact ⟨v, x1⟩
      · left
        have n2 : nK B N lo hi ne a = 0 := by rw [hcmp, if_neg hd, if_pos (by omega)]
        refine ⟨nV B N a, de B N a, bl B N a, hv.1, hv.2, hn, by unfold de; omega, by unfold de; omega, hcc, fun fp => ?_⟩
        obtain ⟨v, x1, x2⟩ := hm fp
        rw [x2 n2] at x1
        rw [n2] at x1
        exact x1
    · right; right
      have n1 : ∀ q, nK B N lo hi q a = 2 := fun q => by rw [hcmp, if_neg hd, if_neg (fun hh => hv ⟨hh.1, hh.2.1⟩)]
      refine ⟨2, bl B N a, de B N a, bl B N a, by omega, by unfold de; omega, fun st fp => ?_, fun fp => ?_⟩
      · have := hc st fp
        rw [n1 (-1)] at this
        exact this
      · obtain ⟨v, x1, x2⟩ := hm fp
        rw [n1 ne] at x1
        exact ⟨v, x1⟩
set_option maxHeartbeats 2000000 in
theorem semi2 (K : Nat) (hK : 2000 ≤ K) {cb mb : Nat → Int32} {N : Nat} {B : Nat → Nat} (h : TX cb mb N B) {a : Nat} (ha : a ≤ 400) : (∃ e : Nat, a < e ∧ e ≤ N ∧ (∀ fp, sp_Tape_expectSemicolon K cb (J N) (J a) (J 0) fp = some (J e, J 0, fp)) ∧ ∀ fp, sp_M_sign K 59 (J N) (J a) (J 0) fp mb = some (J e, J 0, fp)) ∨ (∃ p : Nat, p ≤ 400 ∧ (∀ fp, sp_Tape_expectSemicolon K cb (J N) (J a) (J 0) fp = some (J p, J (1 : Nat), J p)) ∧ ∀ fp, sp_M_sign K 59 (J N) (J a) (J 0) fp mb = some (J p, J (1 : Nat), J p)) := by
  have h1 := fun fp => p_semi K hK h (a := a) (by omega) fp
  have h2 := fun fp => p_sign K hK h (a := a) (by omega) fp
  have r1 := bl_rng B N a
  by_cases hc : bt B N (bl B N a) = 59
  · left
    simp only [if_pos hc] at h1 h2
    have : bl B N a < N := by
      unfold bt at hc
      split at hc
      · assumption
      · omega
    exact ⟨bl B N a + 1, by omega, by omega, h1, h2⟩
  · right
    simp only [if_neg hc] at h1 h2
    have hN := h.1
    exact ⟨bl B N a, by omega, h1, h2⟩
def SYM (al : Nat → Nat) : Prop := ∀ s, s < 10 → ∀ j, (al s).testBit j = true → j < 10 ∧ al j = al s
def alU (al : Nat → Nat) (a b : Nat) : Nat → Nat := fun s => if (al a ||| al b).testBit s = true then al a ||| al b else al s
def nrU (nr : Nat → Nat) (a b : Nat) : Nat → Nat := fun k => if k = b then nr b ||| 2 ^ a else if k = a then nr a ||| 2 ^ b else nr k
set_option maxHeartbeats 2000000 in
theorem bit_pow (b j : Nat) : (2 ^ b).testBit j = true ↔ j = b := by
  rw [Nat.testBit_two_pow]; simp; omega
set_option maxHeartbeats 2000000 in
theorem nrU_mem {nr : Nat → Nat} {a b k j : Nat} (hab : a ≠ b) : (nrU nr a b k).testBit j = true ↔ (nr k).testBit j = true ∨ (k = a ∧ j = b) ∨ (k = b ∧ j = a) := by
  unfold nrU
  by_cases h1 : k = b
  · subst h1
    rw [if_pos rfl, Nat.testBit_or, Bool.or_eq_true, bit_pow]
    constructor
    · rintro (h | h)
      · exact Or.inl h
      · exact Or.inr (Or.inr ⟨rfl, h⟩)
    · rintro (h | h | h)
      · exact Or.inl h
      · exact absurd h.1.symm hab
      · exact Or.inr h.2
  · rw [if_neg h1]
    by_cases h2 : k = a
    · subst h2
      rw [if_pos rfl, Nat.testBit_or, Bool.or_eq_true, bit_pow]
      constructor
      · rintro (h | h)
        · exact Or.inl h
        · exact Or.inr (Or.inl ⟨rfl, h⟩)
      · rintro (h | h | h)
        · exact Or.inl h
        · exact Or.inr h.2
        · exact absurd h.1 h1
    · rw [if_neg h2]
      constructor
      · exact Or.inl
      · rintro (h | h | h)
        · exact h
        · exact absurd h.1 h2
        · exact absurd h.1 h1
set_option maxHeartbeats 2000000 in
theorem or_lt10 {a b : Nat} (ha : a < 1024) (hb : b < 1024) : a ||| b < 1024 := Nat.or_lt_two_pow (n := 10) ha hb
set_option maxHeartbeats 2000000 in
theorem AL_add {nr al : Nat → Nat} (h : AL nr al) (hs : SYM al) {a b : Nat} (ha : a < 10) (hb : b < 10) (hab : a ≠ b) : AL (nrU nr a b) (alU al a b) ∧ SYM (alU al a b) := by
  obtain ⟨hn, hA⟩ := h
  have hpl : ∀ q, q < 10 → 2 ^ q < 1024 := fun q hq => Nat.pow_lt_pow_right (n := 10) (by omega) hq
  have inU : ∀ j, (al a ||| al b).testBit j = true ↔ (al a).testBit j = true ∨ (al b).testBit j = true := fun j => by rw [Nat.testBit_or, Bool.or_eq_true]
  obtain ⟨a1, a2, a3, a4⟩ := hA a ha
  obtain ⟨b1, b2, b3, b4⟩ := hA b hb
  have sub : ∀ c, closed (nrU nr a b) c → closed nr c := fun c hc k hk hkc j hj => hc k hk hkc j ((nrU_mem hab).mpr (Or.inl hj))
  refine ⟨⟨fun s hs' => ?_, fun s hs' => ?_⟩, fun s hs' j hj => ?_⟩
  · unfold nrU
    split
    · exact or_lt10 (hn b hb) (hpl a ha)
    · split
      · exact or_lt10 (hn a ha) (hpl b hb)
      · exact hn s hs'
  · unfold alU
    by_cases hU : (al a ||| al b).testBit s = true
    · rw [if_pos hU]
      refine ⟨or_lt10 a1 b1, hU, fun k hk hkU j hj => ?_, fun c hc hsc j hj => ?_⟩
      · rcases (nrU_mem hab).mp hj with hj | ⟨_, rfl⟩ | ⟨_, rfl⟩
        · rcases (inU k).mp hkU with hk' | hk'
          · exact (inU j).mpr (Or.inl (a3 k hk hk' j hj))
          · exact (inU j).mpr (Or.inr (b3 k hk hk' j hj))
        · exact (inU _).mpr (Or.inr b2)
        · exact (inU _).mpr (Or.inl a2)
      ·
        have hcn := sub c hc
        have hs1 := (hA s hs').2.2.2 c hcn hsc
        have both : c.testBit a = true ∧ c.testBit b = true := by
          rcases (inU s).mp hU with h1 | h1
          · have e := (hs a ha s h1).2
            have hca : c.testBit a = true := hs1 a (by rw [e]; exact a2)
            exact ⟨hca, hc a ha hca b ((nrU_mem hab).mpr (Or.inr (Or.inl ⟨rfl, rfl⟩)))⟩
          · have e := (hs b hb s h1).2
            have hcb : c.testBit b = true := hs1 b (by rw [e]; exact b2)
            exact ⟨hc b hb hcb a ((nrU_mem hab).mpr (Or.inr (Or.inr ⟨rfl, rfl⟩))), hcb⟩
        rcases (inU j).mp hj with h1 | h1
        · exact a4 c hcn both.1 j h1
        · exact b4 c hcn both.2 j h1
    · rw [if_neg hU]
      obtain ⟨s1, s2, s3, s4⟩ := hA s hs'
      refine ⟨s1, s2, fun k hk hks j hj => ?_, fun c hc hsc j hj => s4 c (sub c hc) hsc j hj⟩
      have ke := (hs s hs' k hks).2
      rcases (nrU_mem hab).mp hj with hj | ⟨rfl, _⟩ | ⟨rfl, _⟩
      · exact s3 k hk hks j hj
      · exact absurd ((inU s).mpr (Or.inl (by rw [ke]; exact s2))) hU
      · exact absurd ((inU s).mpr (Or.inr (by rw [ke]; exact s2))) hU
  · unfold alU at hj ⊢
    by_cases hU : (al a ||| al b).testBit s = true
    · rw [if_pos hU] at hj ⊢
      have hj10 : j < 10 := by
        rcases (inU j).mp hj with h1 | h1
        · exact (hs a ha j h1).1
        · exact (hs b hb j h1).1
      exact ⟨hj10, by rw [if_pos hj]⟩
    · rw [if_neg hU] at hj ⊢
      have h1 := hs s hs' j hj
      refine ⟨h1.1, ?_⟩
      rw [if_neg, h1.2]
      intro hjU
      apply hU
      have s2 := (hA s hs').2.1
      rcases (inU j).mp hjU with h2 | h2
      · have := (hs a ha j h2).2
        exact (inU s).mpr (Or.inl (by rw [← this, h1.2]; exact s2))
      · have := (hs b hb j h2).2
        exact (inU s).mpr (Or.inr (by rw [← this, h1.2]; exact s2))
set_option maxHeartbeats 2000000 in
theorem rw_ok (K : Nat) {c : Nat} (hc : c < 24) {kd : Int} (hk : kd ≠ -1) (a fp : Int32) : sp_Tape_refuseWord K (if kd = -1 then J 1 else J 0) (if c < 24 then J 0 else J 1) a (J 0) fp = some (J 0, fp) := by
  rw [if_neg hk, if_pos hc]
  simp (disch := omega) only [sp_Tape_refuseWord, J_lit, J_add, J_sub, J_mul, J_neg, J_nat, J_inb, J_div, ↓reduceIte, Int.toNat_natCast, Option.bind_some, J_le_t, J_le_f, J_lt_t, J_lt_f, J_eq_t, J_eq_f, L_lit, L_add, L_sub, L_mul, L_div, JL, LJ, Int.reduceToNat, Int.toNat_zero, Int.toNat_one, xb, xm, within_t, within_f, nb_t, nb_f, ni_t, ni_f, in_t, in_f, less_, bad_0, bad_1, not_true_eq_false, not_false_eq_true, L_lt_t, L_lt_f, L_eq_t, L_eq_f, lg_gt, lg_eq, lg_lt]
set_option maxHeartbeats 2000000 in
theorem rw_full (K : Nat) {c : Nat} (hc : ¬ c < 24) {kd : Int} (hk : kd ≠ -1) (a fp : Int32) : sp_Tape_refuseWord K (if kd = -1 then J 1 else J 0) (if c < 24 then J 0 else J 1) a (J 0) fp = some (J (3 : Nat), a) := by
  rw [if_neg hk, if_neg hc]
  simp (disch := omega) only [sp_Tape_refuseWord, sp_Tape_fail, sp_Tape_failed, J_lit, J_add, J_sub, J_mul, J_neg, J_nat, J_inb, J_div, ↓reduceIte, Int.toNat_natCast, Option.bind_some, J_le_t, J_le_f, J_lt_t, J_lt_f, J_eq_t, J_eq_f, L_lit, L_add, L_sub, L_mul, L_div, JL, LJ, Int.reduceToNat, Int.toNat_zero, Int.toNat_one, xb, xm, within_t, within_f, nb_t, nb_f, ni_t, ni_f, in_t, in_f, less_, bad_0, bad_1, not_true_eq_false, not_false_eq_true, L_lt_t, L_lt_f, L_eq_t, L_eq_f, lg_gt, lg_eq, lg_lt]
  rfl
set_option maxHeartbeats 2000000 in
theorem rw_bad (K : Nat) (c : Nat) (a fp : Int32) : sp_Tape_refuseWord K (if (-1 : Int) = -1 then J 1 else J 0) (if c < 24 then J 0 else J 1) a (J 0) fp = some (J (1 : Nat), a) := by
  rw [if_pos rfl]
  simp (disch := omega) only [sp_Tape_refuseWord, sp_Tape_fail, sp_Tape_failed, J_lit, J_add, J_sub, J_mul, J_neg, J_nat, J_inb, J_div, ↓reduceIte, Int.toNat_natCast, Option.bind_some, J_le_t, J_le_f, J_lt_t, J_lt_f, J_eq_t, J_eq_f, L_lit, L_add, L_sub, L_mul, L_div, JL, LJ, Int.reduceToNat, Int.toNat_zero, Int.toNat_one, xb, xm, within_t, within_f, nb_t, nb_f, ni_t, ni_f, in_t, in_f, less_, bad_0, bad_1, not_true_eq_false, not_false_eq_true, L_lt_t, L_lt_f, L_eq_t, L_eq_f, lg_gt, lg_eq, lg_lt]
  rfl
set_option maxHeartbeats 2000000 in
theorem inbJ {v n : Nat} (h : v < n) (hn : n ≤ 2147483648) : inb (J v) n := by
  have := J_inb (a := v) (n := n) (by omega)
  exact of_eq_true this
set_option maxHeartbeats 2000000 in
theorem natJ {v : Nat} (h : v < 2147483648) : (J v).toNatClampNeg = v := by
  rw [J_nat (by omega)]; rfl
set_option maxHeartbeats 2000000 in
theorem readShed_f (K : Nat) (sh cb : Nat → Int32) (N a st : Int32) {k : Nat} (hk : 1 ≤ k ∧ k ≤ 3) (fp : Int32) : ∃ x, sp_Law_readShed K sh cb N a st (J k) fp = some (x, a, st, J k, fp) := by
  have e := fun lo hi => p_readNumber_f K lo hi cb N a st hk fp
  exact ⟨_, by simp (disch := omega) only [sp_Law_readShed, e, J_lit, J_add, J_sub, J_mul, J_neg, J_nat, J_inb, J_div, ↓reduceIte, Int.toNat_natCast, Option.bind_some, J_le_t, J_le_f, J_lt_t, J_lt_f, J_eq_t, J_eq_f, L_lit, L_add, L_sub, L_mul, L_div, JL, LJ, Int.reduceToNat, Int.toNat_zero, Int.toNat_one, xb, xm, within_t, within_f, nb_t, nb_f, ni_t, ni_f, in_t, in_f, less_, bad_0, bad_1, not_true_eq_false, not_false_eq_true, L_lt_t, L_lt_f, L_eq_t, L_eq_f, lg_gt, lg_eq, lg_lt]; rfl⟩
set_option maxHeartbeats 2000000 in
theorem readOfSort_f (K : Nat) (p : Int32) (cb : Nat → Int32) (N a st : Int32) {k : Nat} (hk : 1 ≤ k ∧ k ≤ 3) (fp : Int32) (v : Nat → Int32) : ∃ x, sp_Law_readOfSort K p cb N a st (J k) fp v = some (a, st, J k, fp, x) := by
  have e := fun lo hi => p_readNumber_f K lo hi cb N a st hk fp
  exact ⟨_, by simp (disch := omega) only [sp_Law_readOfSort, e, J_lit, J_add, J_sub, J_mul, J_neg, J_nat, J_inb, J_div, ↓reduceIte, Int.toNat_natCast, Option.bind_some, J_le_t, J_le_f, J_lt_t, J_lt_f, J_eq_t, J_eq_f, L_lit, L_add, L_sub, L_mul, L_div, JL, LJ, Int.reduceToNat, Int.toNat_zero, Int.toNat_one, xb, xm, within_t, within_f, nb_t, nb_f, ni_t, ni_f, in_t, in_f, less_, bad_0, bad_1, not_true_eq_false, not_false_eq_true, L_lt_t, L_lt_f, L_eq_t, L_eq_f, lg_gt, lg_eq, lg_lt]; rfl⟩
set_option maxHeartbeats 2000000 in
theorem alike_loop (K : Nat) (hK : 2000 ≤ K) {al : Nat → Nat} {A : Nat → Int32} (hA : ∀ s, s < 10 → A s = J (al s)) {U : Nat} (hU : U < 1024) (a1 a2 a3 a4 : Int32) : ∃ A', f_Law_readAlike K K 0 (J U, J 0, A, a1, a2, a3, a4) = some (A', a1, a2, a3, a4) ∧ ∀ s, s < 10 → A' s = J (if U.testBit s = true then U else al s) := by
  obtain ⟨m, s, g1, ⟨A', rfl, h1, h2⟩, g3⟩ := lp (fun m s => f_Law_readAlike K m 0 s) (fun i s => ∃ A' : Nat → Int32, s = (J U, J i, A', a1, a2, a3, a4) ∧ (∀ q, q < i → A' q = J (if U.testBit q = true then U else al q)) ∧ ∀ q, i ≤ q → q < 10 → A' q = J (al q)) 2 10 (by
    rintro i hi s ⟨A', rfl, h1, h2⟩ m
    have eb := bitJ (a := U) (s := i) (by omega)
    by_cases hb : U.testBit i = true
    · refine ⟨m, _, by omega, ⟨upd A' i (J U), rfl, fun q hq => ?_, fun q hq hq2 => ?_⟩, ?_⟩
      · unfold upd; split
        · next h => rw [h, if_pos hb]
        · exact h1 q (by omega)
      · unfold upd; rw [if_neg (by omega)]; exact h2 q (by omega) hq2
      · clear h1 h2
        simp (disch := omega) only [f_Law_readAlike, eb, hb, cast1, J_lit, J_add, J_sub, J_mul, J_neg, J_nat, J_inb, J_div, ↓reduceIte, Int.toNat_natCast, Option.bind_some, J_le_t, J_le_f, J_lt_t, J_lt_f, J_eq_t, J_eq_f, L_lit, L_add, L_sub, L_mul, L_div, JL, LJ, Int.reduceToNat, Int.toNat_zero, Int.toNat_one, xb, xm, within_t, within_f, nb_t, nb_f, ni_t, ni_f, in_t, in_f, less_, bad_0, bad_1, not_true_eq_false, not_false_eq_true, L_lt_t, L_lt_f, L_eq_t, L_eq_f, lg_gt, lg_eq, lg_lt]
    · refine ⟨m, _, by omega, ⟨A', rfl, fun q hq => ?_, fun q hq hq2 => h2 q (by omega) hq2⟩, ?_⟩
      · by_cases hqi : q = i
        · subst hqi; rw [if_neg hb]; exact h2 q (Nat.le_refl _) hi
        · exact h1 q (by omega)
      · clear h1 h2
        simp (disch := omega) only [f_Law_readAlike, eb, hb, Bool.false_eq_true, cast1, J_lit, J_add, J_sub, J_mul, J_neg, J_nat, J_inb, J_div, ↓reduceIte, Int.toNat_natCast, Option.bind_some, J_le_t, J_le_f, J_lt_t, J_lt_f, J_eq_t, J_eq_f, L_lit, L_add, L_sub, L_mul, L_div, JL, LJ, Int.reduceToNat, Int.toNat_zero, Int.toNat_one, xb, xm, within_t, within_f, nb_t, nb_f, ni_t, ni_f, in_t, in_f, less_, bad_0, bad_1, not_true_eq_false, not_false_eq_true, L_lt_t, L_lt_f, L_eq_t, L_eq_f, lg_gt, lg_eq, lg_lt]) (J U, J (0 : Nat), A, a1, a2, a3, a4) ⟨A, rfl, fun q hq => by omega, fun q _ h => hA q h⟩ K (by omega)
  obtain ⟨m, rfl⟩ : ∃ q, m = q + 1 := ⟨m - 1, by omega⟩
  refine ⟨A', ?_, fun s hs => h1 s hs⟩
  refine Eq.trans g3 ?_
  simp (disch := omega) only [f_Law_readAlike, J_lit, J_add, J_sub, J_mul, J_neg, J_nat, J_inb, J_div, ↓reduceIte, Int.toNat_natCast, Option.bind_some, J_le_t, J_le_f, J_lt_t, J_lt_f, J_eq_t, J_eq_f, L_lit, L_add, L_sub, L_mul, L_div, JL, LJ, Int.reduceToNat, Int.toNat_zero, Int.toNat_one, xb, xm, within_t, within_f, nb_t, nb_f, ni_t, ni_f, in_t, in_f, less_, bad_0, bad_1, not_true_eq_false, not_false_eq_true, L_lt_t, L_lt_f, L_eq_t, L_eq_f, lg_gt, lg_eq, lg_lt]
set_option maxHeartbeats 2000000 in
theorem readAlike_f (K : Nat) (hK : 2000 ≤ K) {al : Nat → Nat} {A : Nat → Int32} (hA : ∀ s, s < 10 → A s = J (al s)) (hl : ∀ s, s < 10 → al s < 1024) (cb : Nat → Int32) (N a st : Int32) {k : Nat} (hk : 1 ≤ k ∧ k ≤ 3) (fp : Int32) : ∃ x, sp_Law_readAlike K A cb N a st (J k) fp = some (x, a, st, J k, fp) := by
  have e := fun lo hi => p_readNumber_f K lo hi cb N a st hk fp
  have e2 := alikeWith_t K (s := 0) (by omega) A
  rw [Int.natCast_zero, hA 0 (by omega)] at e2
  obtain ⟨A', e3, -⟩ := alike_loop K hK hA (U := al 0 ||| al 0) (or_lt10 (hl 0 (by omega)) (hl 0 (by omega))) a st (J k) fp
  refine ⟨A', ?_⟩
  simp (disch := omega) only [sp_Law_readAlike, e, sp_Tape_refuseSame, sp_Tape_fail, sp_Tape_failed, e2, J_or, e3, J_lit, J_add, J_sub, J_mul, J_neg, J_nat, J_inb, J_div, ↓reduceIte, Int.toNat_natCast, Option.bind_some, J_le_t, J_le_f, J_lt_t, J_lt_f, J_eq_t, J_eq_f, L_lit, L_add, L_sub, L_mul, L_div, JL, LJ, Int.reduceToNat, Int.toNat_zero, Int.toNat_one, xb, xm, within_t, within_f, nb_t, nb_f, ni_t, ni_f, in_t, in_f, less_, bad_0, bad_1, not_true_eq_false, not_false_eq_true, L_lt_t, L_lt_f, L_eq_t, L_eq_f, lg_gt, lg_eq, lg_lt]
set_option maxHeartbeats 2000000 in
theorem cs_k0 (K : Nat) (hK : 2000 ≤ K) {cb mb : Nat → Int32} {N : Nat} {B : Nat → Nat} (h : TX cb mb N B) {a : Nat} (ha : a ≤ 400) (hb : bl B N a = a) {l : LA} {nr : Nat → Nat} {sh ho co al : Nat → Int32} {wa pa ta : Int32} {msh : Nat → Nat → Int32} {mho mco mne : Nat → Int32} {mwa mpa mta : Int32} (hl : LOK l) (hC : LC l sh ho co al wa pa ta) (hM : LM l nr msh mho mco mne mwa mpa mta) (hs : SYM (lal l)) {c : Nat} (hc : c ≤ 24) (st fp : Int32) (hk : kL B N a = 0) (hc24 : c < 24) : (∃ (l' : LA) (nr' : Nat → Nat) (e : Nat) (st' : Int32) (sh' ho' co' al' : Nat → Int32) (wa' pa' ta' : Int32) (msh' : Nat → Nat → Int32) (mho' mco' mne' : Nat → Int32) (mwa' mpa' mta' : Int32), sp_Law_readClause K sh ho co al wa pa ta (J c) cb (J N) (J a) st (J 0) fp = some (sh', ho', co', al', wa', pa', ta', J (c + 1 : Nat), J e, st', J 0, fp) ∧ sp_M_clause K (J N) (J a) 0 fp mb (J c) mwa mpa mta msh mho mco mne = some (J e, J 0, fp, J (c + 1 : Nat), mwa', mpa', mta', msh', mho', mco', mne') ∧ a < e ∧ e ≤ N ∧ c < 24 ∧ LOK l' ∧ LC l' sh' ho' co' al' wa' pa' ta' ∧ LM l' nr' msh' mho' mco' mne' mwa' mpa' mta' ∧ SYM (lal l')) ∨ (∃ (k p : Nat) (x1 x2 x3 x4 : Nat → Int32) (x5 x6 x7 x8 : Int32) (x9 : Nat) (x10 : Int32) (y1 : Nat) (y2 y3 y4 y5 : Int32) (y6 : Nat → Nat → Int32) (y7 y8 y9 : Nat → Int32), (1 ≤ k ∧ k ≤ 3) ∧ (x9 ≤ 400 ∧ y1 ≤ 400) ∧ sp_Law_readClause K sh ho co al wa pa ta (J c) cb (J N) (J a) st (J 0) fp = some (x1, x2, x3, x4, x5, x6, x7, x8, J x9, x10, J k, J p) ∧ sp_M_clause K (J N) (J a) 0 fp mb (J c) mwa mpa mta msh mho mco mne = some (J y1, J k, J p, y2, y3, y4, y5, y6, y7, y8, y9)) := by
  have hN := h.1
  have rw1 := en_rng 97 122 B N a
  have eW := rc_word K hK h (a := a) (by omega) hb st
  have eC := p_clauseOfWord K hK h (s := a) (by omega)
  have eH := p_clauseHere K hK h (a := a) (by omega) hb
  have eM := p_M_skipWord K hK h (a := a) (by omega)
  rw [hk] at eC eH
  have hw : we B N a ≤ 400 := by unfold we; omega
  have haw : a ≤ we B N a := by unfold we; omega
  change sp_M_skipWord K (J N) (J a) mb = some (J (we B N a : Nat)) at eM
  generalize we B N a = w at *
  have eF := rw_ok K hc24 (kd := 0) (by omega) (J a) fp
  rcases num2 K hK h (lo := 0) (hi := 7) (by omega) (by omega) (a := w) (by omega) with ⟨v1, e1, s1, lo1, hi1, le1, lf1, c1, m1⟩ | ⟨k, p, e1, s1, hkk, lfe1, c1, m1⟩
  rotate_left
  · have hkz : ¬ J (k : Int) = 0 := by rw [show (0 : Int32) = J 0 from rfl, J_eq (by omega) (by omega)]; omega
    have rf := fun lo hi => p_readNumber_f K lo hi cb (J N) (J e1) (J s1) hkk (J p)
    have c1' : ∀ st, sp_Tape_readNumber K (J 0) (J 7) cb (J N) (J w) st (J 0) fp = some (J 0, J e1, J s1, J k, J p) := fun st => c1 st fp
    obtain ⟨x, eR⟩ : ∃ x, sp_Law_readShed K sh cb (J N) (J w) (J a) (J 0) fp = some (x, J e1, J s1, J k, J p) := ⟨_, by
      simp (disch := omega) only [sp_Law_readShed, c1', rf, J_lit, J_add, J_sub, J_mul, J_neg, J_nat, J_inb, J_div, ↓reduceIte, Int.toNat_natCast, Option.bind_some, J_le_t, J_le_f, J_lt_t, J_lt_f, J_eq_t, J_eq_f, L_lit, L_add, L_sub, L_mul, L_div, JL, LJ, Int.reduceToNat, Int.toNat_zero, Int.toNat_one, xb, xm, within_t, within_f, nb_t, nb_f, ni_t, ni_f, in_t, in_f, less_, bad_0, bad_1, not_true_eq_false, not_false_eq_true, L_lt_t, L_lt_f, L_eq_t, L_eq_f, lg_gt, lg_eq, lg_lt]
      rfl⟩
    have eS := p_semi_f K cb (J N) (J e1) hkk (J p)
    obtain ⟨vv, mm⟩ := m1 fp
    have eMc := mc_k0 K hK hc24 eH eM mwa mpa mta msh mho mco mne mm (p_M_number_f K _ _ _ (J N) (J e1) hkk (J p) mb) (p_M_number_f K _ _ _ (J N) (J e1) hkk (J p) mb) (p_sign_f K (J N) (J e1) hkk (J p) mb)
    rw [if_neg hkz] at eMc
    exact Or.inr ⟨k, p, _, _, _, _, _, _, _, _, _, _, _, _, _, _, _, _, _, _, _, hkk, ⟨by omega, by omega⟩, rc_k0 K hK (by omega) eW eC eF sh ho co al wa pa ta eR eS, eMc⟩
  rcases num2 K hK h (lo := 0) (hi := 9) (by omega) (by omega) (a := e1) (by omega) with ⟨v2, e2, s2, lo2, hi2, le2, lf2, c2, m2⟩ | ⟨k, p, e2, s2, hkk, lfe2, c2, m2⟩
  rotate_left
  · have hkz : ¬ J (k : Int) = 0 := by rw [show (0 : Int32) = J 0 from rfl, J_eq (by omega) (by omega)]; omega
    have rf := fun lo hi => p_readNumber_f K lo hi cb (J N) (J e2) (J s2) hkk (J p)
    have c1' : ∀ st, sp_Tape_readNumber K (J 0) (J 7) cb (J N) (J w) st (J 0) fp = some (J v1, J e1, J s1, J 0, fp) := fun st => c1 st fp
    have c2' : ∀ st, sp_Tape_readNumber K (J 0) (J 9) cb (J N) (J e1) st (J 0) fp = some (J 0, J e2, J s2, J k, J p) := fun st => c2 st fp
    have e10 : (v1 : Int) * 10 = ((v1 * 10 : Nat) : Int) := by omega
    obtain ⟨x, eR⟩ : ∃ x, sp_Law_readShed K sh cb (J N) (J w) (J a) (J 0) fp = some (x, J e2, J s2, J k, J p) := ⟨_, by
      simp (disch := omega) only [sp_Law_readShed, c1', c2', rf, e10, J_lit, J_add, J_sub, J_mul, J_neg, J_nat, J_inb, J_div, ↓reduceIte, Int.toNat_natCast, Option.bind_some, J_le_t, J_le_f, J_lt_t, J_lt_f, J_eq_t, J_eq_f, L_lit, L_add, L_sub, L_mul, L_div, JL, LJ, Int.reduceToNat, Int.toNat_zero, Int.toNat_one, xb, xm, within_t, within_f, nb_t, nb_f, ni_t, ni_f, in_t, in_f, less_, bad_0, bad_1, not_true_eq_false, not_false_eq_true, L_lt_t, L_lt_f, L_eq_t, L_eq_f, lg_gt, lg_eq, lg_lt]
      rfl⟩
    have eS := p_semi_f K cb (J N) (J e2) hkk (J p)
    obtain ⟨vv, mm⟩ := m2 fp
    have eMc := mc_k0 K hK hc24 eH eM mwa mpa mta msh mho mco mne (m1 fp) mm (p_M_number_f K _ _ _ (J N) (J e2) hkk (J p) mb) (p_sign_f K (J N) (J e2) hkk (J p) mb)
    rw [if_neg hkz] at eMc
    exact Or.inr ⟨k, p, _, _, _, _, _, _, _, _, _, _, _, _, _, _, _, _, _, _, _, hkk, ⟨by omega, by omega⟩, rc_k0 K hK (by omega) eW eC eF sh ho co al wa pa ta eR eS, eMc⟩
  rcases num2 K hK h (lo := 0) (hi := 200) (by omega) (by omega) (a := e2) (by omega) with ⟨v3, e3, s3, lo3, hi3, le3, lf3, c3, m3⟩ | ⟨k, p, e3, s3, hkk, lfe3, c3, m3⟩
  rotate_left
  · have hkz : ¬ J (k : Int) = 0 := by rw [show (0 : Int32) = J 0 from rfl, J_eq (by omega) (by omega)]; omega
    have rf := fun lo hi => p_readNumber_f K lo hi cb (J N) (J e3) (J s3) hkk (J p)
    have c1' : ∀ st, sp_Tape_readNumber K (J 0) (J 7) cb (J N) (J w) st (J 0) fp = some (J v1, J e1, J s1, J 0, fp) := fun st => c1 st fp
    have c2' : ∀ st, sp_Tape_readNumber K (J 0) (J 9) cb (J N) (J e1) st (J 0) fp = some (J v2, J e2, J s2, J 0, fp) := fun st => c2 st fp
    have c3' : ∀ st, sp_Tape_readNumber K (J 0) (J 200) cb (J N) (J e2) st (J 0) fp = some (J 0, J e3, J s3, J k, J p) := fun st => c3 st fp
    have e10 : (v1 : Int) * 10 + (v2 : Int) = ((v1 * 10 + v2 : Nat) : Int) := by omega
    obtain ⟨x, eR⟩ : ∃ x, sp_Law_readShed K sh cb (J N) (J w) (J a) (J 0) fp = some (x, J e3, J s3, J k, J p) := ⟨_, by
      simp (disch := omega) only [sp_Law_readShed, c1', c2', c3', rf, e10, J_lit, J_add, J_sub, J_mul, J_neg, J_nat, J_inb, J_div, ↓reduceIte, Int.toNat_natCast, Option.bind_some, J_le_t, J_le_f, J_lt_t, J_lt_f, J_eq_t, J_eq_f, L_lit, L_add, L_sub, L_mul, L_div, JL, LJ, Int.reduceToNat, Int.toNat_zero, Int.toNat_one, xb, xm, within_t, within_f, nb_t, nb_f, ni_t, ni_f, in_t, in_f, less_, bad_0, bad_1, not_true_eq_false, not_false_eq_true, L_lt_t, L_lt_f, L_eq_t, L_eq_f, lg_gt, lg_eq, lg_lt]
      rfl⟩
    have eS := p_semi_f K cb (J N) (J e3) hkk (J p)
    obtain ⟨vv, mm⟩ := m3 fp
    have eMc := mc_k0 K hK hc24 eH eM mwa mpa mta msh mho mco mne (m1 fp) (m2 fp) mm (p_sign_f K (J N) (J e3) hkk (J p) mb)
    rw [if_neg hkz] at eMc
    exact Or.inr ⟨k, p, _, _, _, _, _, _, _, _, _, _, _, _, _, _, _, _, _, _, _, hkk, ⟨by omega, by omega⟩, rc_k0 K hK (by omega) eW eC eF sh ho co al wa pa ta eR eS, eMc⟩
  have c1' : ∀ st, sp_Tape_readNumber K (J 0) (J 7) cb (J N) (J w) st (J 0) fp = some (J v1, J e1, J s1, J 0, fp) := fun st => c1 st fp
  have c2' : ∀ st, sp_Tape_readNumber K (J 0) (J 9) cb (J N) (J e1) st (J 0) fp = some (J v2, J e2, J s2, J 0, fp) := fun st => c2 st fp
  have c3' : ∀ st, sp_Tape_readNumber K (J 0) (J 200) cb (J N) (J e2) st (J 0) fp = some (J v3, J e3, J s3, J 0, fp) := fun st => c3 st fp
  have e10 : (v1 : Int) * 10 + (v2 : Int) = ((v1 * 10 + v2 : Nat) : Int) := by omega
  have eR : sp_Law_readShed K sh cb (J N) (J w) (J a) (J 0) fp = some (upd sh (v1 * 10 + v2) (J v3), J e3, J s3, J 0, fp) := by
    clear c1 c2 c3 m1 m2 m3 h
    simp (disch := omega) only [sp_Law_readShed, c1', c2', c3', e10, J_lit, J_add, J_sub, J_mul, J_neg, J_nat, J_inb, J_div, ↓reduceIte, Int.toNat_natCast, Option.bind_some, J_le_t, J_le_f, J_lt_t, J_lt_f, J_eq_t, J_eq_f, L_lit, L_add, L_sub, L_mul, L_div, JL, LJ, Int.reduceToNat, Int.toNat_zero, Int.toNat_one, xb, xm, within_t, within_f, nb_t, nb_f, ni_t, ni_f, in_t, in_f, less_, bad_0, bad_1, not_true_eq_false, not_false_eq_true, L_lt_t, L_lt_f, L_eq_t, L_eq_f, lg_gt, lg_eq, lg_lt]
  rcases semi2 K hK h (a := e3) (by omega) with ⟨e, le, lf, cS, mS⟩ | ⟨p, lfp, cS, mS⟩
  · have eMc := mc_k0 K hK hc24 eH eM mwa mpa mta msh mho mco mne (m1 fp) (m2 fp) (m3 fp) (mS fp)
    rw [if_pos (show J 0 = 0 from rfl), if_pos (inbJ (v := v1) (by omega) (by omega)), if_pos (inbJ (v := v2) (by omega) (by omega)), natJ (v := v1) (by omega), natJ (v := v2) (by omega)] at eMc
    have eCc := rc_k0 K hK (by omega) eW eC eF sh ho co al wa pa ta eR (cS fp)
    refine Or.inl ⟨(fun g s => if g = v1 ∧ s = v2 then v3 else lsh l g s, l.2), nr, e, _, _, _, _, _, _, _, _, _, _, _, _, _, _, _, eCc, eMc, by omega, lf, hc24, ?_, ?_, ?_, hs⟩
    · obtain ⟨h1, h2⟩ := hl
      refine ⟨fun g hg q hq => ?_, h2⟩
      show (if g = v1 ∧ q = v2 then v3 else lsh l g q) ≤ 200
      split
      · omega
      · exact h1 g hg q hq
    · obtain ⟨h1, h2⟩ := hC
      refine ⟨fun g hg q hq => ?_, h2⟩
      show upd sh (v1 * 10 + v2) (J v3) (g * 10 + q) = J ((if g = v1 ∧ q = v2 then v3 else lsh l g q : Nat) : Int)
      unfold upd
      by_cases hgq : g = v1 ∧ q = v2
      · rw [if_pos hgq, if_pos (by omega)]
      · rw [if_neg hgq, if_neg (by omega)]; exact h1 g hg q hq
    · obtain ⟨h1, h2⟩ := hM
      refine ⟨fun g hg q hq => ?_, h2⟩
      show va_up msh v1 (upd (msh v1) v2 (J v3)) g q = J ((if g = v1 ∧ q = v2 then v3 else lsh l g q : Nat) : Int)
      by_cases hg1 : g = v1
      · subst hg1
        rw [va_up_eq]
        unfold upd
        by_cases hq1 : q = v2
        · rw [if_pos hq1, if_pos ⟨rfl, hq1⟩]
        · rw [if_neg hq1, if_neg (fun hh => hq1 hh.2)]; exact h1 g hg q hq
      · rw [pu_up_ne _ _ hg1, if_neg (fun hh => hg1 hh.1)]; exact h1 g hg q hq
  · have eMc := mc_k0 K hK hc24 eH eM mwa mpa mta msh mho mco mne (m1 fp) (m2 fp) (m3 fp) (mS fp)
    rw [if_neg (by decide)] at eMc
    exact Or.inr ⟨1, p, _, _, _, _, _, _, _, _, _, _, _, _, _, _, _, _, _, _, _, by omega, ⟨by omega, by omega⟩, rc_k0 K hK (by omega) eW eC eF sh ho co al wa pa ta eR (cS fp), eMc⟩
set_option maxHeartbeats 2000000 in
theorem cs_k1 (K : Nat) (hK : 2000 ≤ K) {cb mb : Nat → Int32} {N : Nat} {B : Nat → Nat} (h : TX cb mb N B) {a : Nat} (ha : a ≤ 400) (hb : bl B N a = a) {l : LA} {nr : Nat → Nat} {sh ho co al : Nat → Int32} {wa pa ta : Int32} {msh : Nat → Nat → Int32} {mho mco mne : Nat → Int32} {mwa mpa mta : Int32} (hl : LOK l) (hC : LC l sh ho co al wa pa ta) (hM : LM l nr msh mho mco mne mwa mpa mta) (hs : SYM (lal l)) {c : Nat} (hc : c ≤ 24) (st fp : Int32) (hk : kL B N a = 1) (hc24 : c < 24) : (∃ (l' : LA) (nr' : Nat → Nat) (e : Nat) (st' : Int32) (sh' ho' co' al' : Nat → Int32) (wa' pa' ta' : Int32) (msh' : Nat → Nat → Int32) (mho' mco' mne' : Nat → Int32) (mwa' mpa' mta' : Int32), sp_Law_readClause K sh ho co al wa pa ta (J c) cb (J N) (J a) st (J 0) fp = some (sh', ho', co', al', wa', pa', ta', J (c + 1 : Nat), J e, st', J 0, fp) ∧ sp_M_clause K (J N) (J a) 0 fp mb (J c) mwa mpa mta msh mho mco mne = some (J e, J 0, fp, J (c + 1 : Nat), mwa', mpa', mta', msh', mho', mco', mne') ∧ a < e ∧ e ≤ N ∧ c < 24 ∧ LOK l' ∧ LC l' sh' ho' co' al' wa' pa' ta' ∧ LM l' nr' msh' mho' mco' mne' mwa' mpa' mta' ∧ SYM (lal l')) ∨ (∃ (k p : Nat) (x1 x2 x3 x4 : Nat → Int32) (x5 x6 x7 x8 : Int32) (x9 : Nat) (x10 : Int32) (y1 : Nat) (y2 y3 y4 y5 : Int32) (y6 : Nat → Nat → Int32) (y7 y8 y9 : Nat → Int32), (1 ≤ k ∧ k ≤ 3) ∧ (x9 ≤ 400 ∧ y1 ≤ 400) ∧ sp_Law_readClause K sh ho co al wa pa ta (J c) cb (J N) (J a) st (J 0) fp = some (x1, x2, x3, x4, x5, x6, x7, x8, J x9, x10, J k, J p) ∧ sp_M_clause K (J N) (J a) 0 fp mb (J c) mwa mpa mta msh mho mco mne = some (J y1, J k, J p, y2, y3, y4, y5, y6, y7, y8, y9)) := by
  have hN := h.1
  have rw1 := en_rng 97 122 B N a
  have eW := rc_word K hK h (a := a) (by omega) hb st
  have eC := p_clauseOfWord K hK h (s := a) (by omega)
  have eH := p_clauseHere K hK h (a := a) (by omega) hb
  have eM := p_M_skipWord K hK h (a := a) (by omega)
  rw [hk] at eC eH
  have hw : we B N a ≤ 400 := by unfold we; omega
  have haw : a ≤ we B N a := by unfold we; omega
  change sp_M_skipWord K (J N) (J a) mb = some (J (we B N a : Nat)) at eM
  generalize we B N a = w at *
  have eF := rw_ok K hc24 (kd := 1) (by omega) (J a) fp
  rcases num2 K hK h (lo := 0) (hi := 9) (by omega) (by omega) (a := w) (by omega) with ⟨v1, e1, s1, lo1, hi1, le1, lf1, c1, m1⟩ | ⟨k, p, e1, s1, hkk, lfe1, c1, m1⟩
  rotate_left
  · have hkz : ¬ J (k : Int) = 0 := by rw [show (0 : Int32) = J 0 from rfl, J_eq (by omega) (by omega)]; omega
    have rf := fun lo hi => p_readNumber_f K lo hi cb (J N) (J e1) (J s1) hkk (J p)
    have c1' : ∀ st, sp_Tape_readNumber K (J 0) (J 9) cb (J N) (J w) st (J 0) fp = some (J 0, J e1, J s1, J k, J p) := fun st => c1 st fp
    obtain ⟨x, eR⟩ : ∃ x, sp_Law_readOfSort K 16 cb (J N) (J w) (J a) (J 0) fp ho = some (J e1, J s1, J k, J p, x) := ⟨_, by
      simp (disch := omega) only [sp_Law_readOfSort, c1', rf, J_lit, J_add, J_sub, J_mul, J_neg, J_nat, J_inb, J_div, ↓reduceIte, Int.toNat_natCast, Option.bind_some, J_le_t, J_le_f, J_lt_t, J_lt_f, J_eq_t, J_eq_f, L_lit, L_add, L_sub, L_mul, L_div, JL, LJ, Int.reduceToNat, Int.toNat_zero, Int.toNat_one, xb, xm, within_t, within_f, nb_t, nb_f, ni_t, ni_f, in_t, in_f, less_, bad_0, bad_1, not_true_eq_false, not_false_eq_true, L_lt_t, L_lt_f, L_eq_t, L_eq_f, lg_gt, lg_eq, lg_lt]
      rfl⟩
    have eS := p_semi_f K cb (J N) (J e1) hkk (J p)
    obtain ⟨vv, mm⟩ := m1 fp
    have eMc := mc_k1 K hK hc24 eH eM mwa mpa mta msh mho mco mne mm (p_M_number_f K _ _ _ (J N) (J e1) hkk (J p) mb) (p_sign_f K (J N) (J e1) hkk (J p) mb)
    rw [if_neg hkz] at eMc
    exact Or.inr ⟨k, p, _, _, _, _, _, _, _, _, _, _, _, _, _, _, _, _, _, _, _, hkk, ⟨by omega, by omega⟩, rc_k1 K hK (by omega) eW eC eF sh ho co al wa pa ta eR eS, eMc⟩
  rcases num2 K hK h (lo := 0) (hi := 16) (by omega) (by omega) (a := e1) (by omega) with ⟨v2, e2, s2, lo2, hi2, le2, lf2, c2, m2⟩ | ⟨k, p, e2, s2, hkk, lfe2, c2, m2⟩
  rotate_left
  · have hkz : ¬ J (k : Int) = 0 := by rw [show (0 : Int32) = J 0 from rfl, J_eq (by omega) (by omega)]; omega
    have rf := fun lo hi => p_readNumber_f K lo hi cb (J N) (J e2) (J s2) hkk (J p)
    have c1' : ∀ st, sp_Tape_readNumber K (J 0) (J 9) cb (J N) (J w) st (J 0) fp = some (J v1, J e1, J s1, J 0, fp) := fun st => c1 st fp
    have c2' : ∀ st, sp_Tape_readNumber K (J 0) (J 16) cb (J N) (J e1) st (J 0) fp = some (J 0, J e2, J s2, J k, J p) := fun st => c2 st fp
    obtain ⟨x, eR⟩ : ∃ x, sp_Law_readOfSort K 16 cb (J N) (J w) (J a) (J 0) fp ho = some (J e2, J s2, J k, J p, x) := ⟨_, by
      simp (disch := omega) only [sp_Law_readOfSort, c1', c2', rf, J_lit, J_add, J_sub, J_mul, J_neg, J_nat, J_inb, J_div, ↓reduceIte, Int.toNat_natCast, Option.bind_some, J_le_t, J_le_f, J_lt_t, J_lt_f, J_eq_t, J_eq_f, L_lit, L_add, L_sub, L_mul, L_div, JL, LJ, Int.reduceToNat, Int.toNat_zero, Int.toNat_one, xb, xm, within_t, within_f, nb_t, nb_f, ni_t, ni_f, in_t, in_f, less_, bad_0, bad_1, not_true_eq_false, not_false_eq_true, L_lt_t, L_lt_f, L_eq_t, L_eq_f, lg_gt, lg_eq, lg_lt]
      rfl⟩
    have eS := p_semi_f K cb (J N) (J e2) hkk (J p)
    obtain ⟨vv, mm⟩ := m2 fp
    have eMc := mc_k1 K hK hc24 eH eM mwa mpa mta msh mho mco mne (m1 fp) mm (p_sign_f K (J N) (J e2) hkk (J p) mb)
    rw [if_neg hkz] at eMc
    exact Or.inr ⟨k, p, _, _, _, _, _, _, _, _, _, _, _, _, _, _, _, _, _, _, _, hkk, ⟨by omega, by omega⟩, rc_k1 K hK (by omega) eW eC eF sh ho co al wa pa ta eR eS, eMc⟩
  have c1' : ∀ st, sp_Tape_readNumber K (J 0) (J 9) cb (J N) (J w) st (J 0) fp = some (J v1, J e1, J s1, J 0, fp) := fun st => c1 st fp
  have c2' : ∀ st, sp_Tape_readNumber K (J 0) (J 16) cb (J N) (J e1) st (J 0) fp = some (J v2, J e2, J s2, J 0, fp) := fun st => c2 st fp
  have eR : sp_Law_readOfSort K 16 cb (J N) (J w) (J a) (J 0) fp ho = some (J e2, J s2, J 0, fp, upd ho v1 (J v2)) := by
    clear c1 c2 m1 m2 h
    simp (disch := omega) only [sp_Law_readOfSort, c1', c2', J_lit, J_add, J_sub, J_mul, J_neg, J_nat, J_inb, J_div, ↓reduceIte, Int.toNat_natCast, Option.bind_some, J_le_t, J_le_f, J_lt_t, J_lt_f, J_eq_t, J_eq_f, L_lit, L_add, L_sub, L_mul, L_div, JL, LJ, Int.reduceToNat, Int.toNat_zero, Int.toNat_one, xb, xm, within_t, within_f, nb_t, nb_f, ni_t, ni_f, in_t, in_f, less_, bad_0, bad_1, not_true_eq_false, not_false_eq_true, L_lt_t, L_lt_f, L_eq_t, L_eq_f, lg_gt, lg_eq, lg_lt]
  rcases semi2 K hK h (a := e2) (by omega) with ⟨e, le, lf, cS, mS⟩ | ⟨p, lfp, cS, mS⟩
  · have eMc := mc_k1 K hK hc24 eH eM mwa mpa mta msh mho mco mne (m1 fp) (m2 fp) (mS fp)
    rw [if_pos (show J 0 = 0 from rfl), if_pos (inbJ (v := v1) (by omega) (by omega)), natJ (v := v1) (by omega)] at eMc
    have eCc := rc_k1 K hK (by omega) eW eC eF sh ho co al wa pa ta eR (cS fp)
    refine Or.inl ⟨(l.1, va_up (lho l) v1 v2, l.2.2), nr, e, _, _, _, _, _, _, _, _, _, _, _, _, _, _, _, eCc, eMc, by omega, lf, hc24, ?_, ?_, ?_, hs⟩
    · obtain ⟨h1, h2, h3⟩ := hl
      refine ⟨h1, fun q hq => ?_, h3⟩
      show va_up (lho l) v1 v2 q ≤ 16
      unfold va_up
      split
      · omega
      · exact h2 q hq
    · obtain ⟨h1, h2, h3⟩ := hC
      refine ⟨h1, fun q hq => ?_, h3⟩
      show upd ho v1 (J v2) q = J (va_up (lho l) v1 v2 q : Nat)
      unfold upd va_up
      split
      · rfl
      · exact h2 q hq
    · obtain ⟨h1, h2, h3⟩ := hM
      refine ⟨h1, fun q hq => ?_, h3⟩
      show upd mho v1 (J v2) q = J (va_up (lho l) v1 v2 q : Nat)
      unfold upd va_up
      split
      · rfl
      · exact h2 q hq
  · have eMc := mc_k1 K hK hc24 eH eM mwa mpa mta msh mho mco mne (m1 fp) (m2 fp) (mS fp)
    rw [if_neg (by decide)] at eMc
    exact Or.inr ⟨1, p, _, _, _, _, _, _, _, _, _, _, _, _, _, _, _, _, _, _, _, by omega, ⟨by omega, by omega⟩, rc_k1 K hK (by omega) eW eC eF sh ho co al wa pa ta eR (cS fp), eMc⟩
set_option maxHeartbeats 2000000 in
theorem cs_k2 (K : Nat) (hK : 2000 ≤ K) {cb mb : Nat → Int32} {N : Nat} {B : Nat → Nat} (h : TX cb mb N B) {a : Nat} (ha : a ≤ 400) (hb : bl B N a = a) {l : LA} {nr : Nat → Nat} {sh ho co al : Nat → Int32} {wa pa ta : Int32} {msh : Nat → Nat → Int32} {mho mco mne : Nat → Int32} {mwa mpa mta : Int32} (hl : LOK l) (hC : LC l sh ho co al wa pa ta) (hM : LM l nr msh mho mco mne mwa mpa mta) (hs : SYM (lal l)) {c : Nat} (hc : c ≤ 24) (st fp : Int32) (hk : kL B N a = 2) (hc24 : c < 24) : (∃ (l' : LA) (nr' : Nat → Nat) (e : Nat) (st' : Int32) (sh' ho' co' al' : Nat → Int32) (wa' pa' ta' : Int32) (msh' : Nat → Nat → Int32) (mho' mco' mne' : Nat → Int32) (mwa' mpa' mta' : Int32), sp_Law_readClause K sh ho co al wa pa ta (J c) cb (J N) (J a) st (J 0) fp = some (sh', ho', co', al', wa', pa', ta', J (c + 1 : Nat), J e, st', J 0, fp) ∧ sp_M_clause K (J N) (J a) 0 fp mb (J c) mwa mpa mta msh mho mco mne = some (J e, J 0, fp, J (c + 1 : Nat), mwa', mpa', mta', msh', mho', mco', mne') ∧ a < e ∧ e ≤ N ∧ c < 24 ∧ LOK l' ∧ LC l' sh' ho' co' al' wa' pa' ta' ∧ LM l' nr' msh' mho' mco' mne' mwa' mpa' mta' ∧ SYM (lal l')) ∨ (∃ (k p : Nat) (x1 x2 x3 x4 : Nat → Int32) (x5 x6 x7 x8 : Int32) (x9 : Nat) (x10 : Int32) (y1 : Nat) (y2 y3 y4 y5 : Int32) (y6 : Nat → Nat → Int32) (y7 y8 y9 : Nat → Int32), (1 ≤ k ∧ k ≤ 3) ∧ (x9 ≤ 400 ∧ y1 ≤ 400) ∧ sp_Law_readClause K sh ho co al wa pa ta (J c) cb (J N) (J a) st (J 0) fp = some (x1, x2, x3, x4, x5, x6, x7, x8, J x9, x10, J k, J p) ∧ sp_M_clause K (J N) (J a) 0 fp mb (J c) mwa mpa mta msh mho mco mne = some (J y1, J k, J p, y2, y3, y4, y5, y6, y7, y8, y9)) := by
  have hN := h.1
  have rw1 := en_rng 97 122 B N a
  have eW := rc_word K hK h (a := a) (by omega) hb st
  have eC := p_clauseOfWord K hK h (s := a) (by omega)
  have eH := p_clauseHere K hK h (a := a) (by omega) hb
  have eM := p_M_skipWord K hK h (a := a) (by omega)
  rw [hk] at eC eH
  have hw : we B N a ≤ 400 := by unfold we; omega
  have haw : a ≤ we B N a := by unfold we; omega
  change sp_M_skipWord K (J N) (J a) mb = some (J (we B N a : Nat)) at eM
  generalize we B N a = w at *
  have eF := rw_ok K hc24 (kd := 2) (by omega) (J a) fp
  rcases num2 K hK h (lo := 0) (hi := 16) (by omega) (by omega) (a := w) (by omega) with ⟨v1, e1, s1, lo1, hi1, le1, lf1, c1, m1⟩ | ⟨k, p, e1, s1, hkk, lfe1, c1, m1⟩
  rotate_left
  · have hkz : ¬ J (k : Int) = 0 := by rw [show (0 : Int32) = J 0 from rfl, J_eq (by omega) (by omega)]; omega
    have rf := fun lo hi => p_readNumber_f K lo hi cb (J N) (J e1) (J s1) hkk (J p)
    have c1' : ∀ st, sp_Tape_readNumber K (J 0) (J 16) cb (J N) (J w) st (J 0) fp = some (J 0, J e1, J s1, J k, J p) := fun st => c1 st fp
    have eR : sp_Tape_readNumber K 0 16 cb (J N) (J w) (J a) (J 0) fp = some (J 0, J e1, J s1, J k, J p) := c1' (J a)
    have eS := p_semi_f K cb (J N) (J e1) hkk (J p)
    obtain ⟨vv, mm⟩ := m1 fp
    have eMc := mc_k2 K hK hc24 eH eM mwa mpa mta msh mho mco mne mm (p_sign_f K (J N) (J e1) hkk (J p) mb)
    rw [if_neg hkz] at eMc
    exact Or.inr ⟨k, p, _, _, _, _, _, _, _, _, _, _, _, _, _, _, _, _, _, _, _, hkk, ⟨by omega, by omega⟩, rc_k2 K hK (by omega) eW eC eF sh ho co al wa pa ta eR eS, eMc⟩
  have c1' : ∀ st, sp_Tape_readNumber K (J 0) (J 16) cb (J N) (J w) st (J 0) fp = some (J v1, J e1, J s1, J 0, fp) := fun st => c1 st fp
  have eR : sp_Tape_readNumber K 0 16 cb (J N) (J w) (J a) (J 0) fp = some (J v1, J e1, J s1, J 0, fp) := c1' (J a)
  rcases semi2 K hK h (a := e1) (by omega) with ⟨e, le, lf, cS, mS⟩ | ⟨p, lfp, cS, mS⟩
  · have eMc := mc_k2 K hK hc24 eH eM mwa mpa mta msh mho mco mne (m1 fp) (mS fp)
    rw [if_pos (show J 0 = 0 from rfl)] at eMc
    have eCc := rc_k2 K hK (by omega) eW eC eF sh ho co al wa pa ta eR (cS fp)
    refine Or.inl ⟨(l.1, l.2.1, l.2.2.1, l.2.2.2.1, v1, l.2.2.2.2.2), nr, e, _, _, _, _, _, _, _, _, _, _, _, _, _, _, _, eCc, eMc, by omega, lf, hc24, ?_, ?_, ?_, hs⟩
    · obtain ⟨h1, h2, h3, h4, h5, h6⟩ := hl
      exact ⟨h1, h2, h3, h4, hi1, h6⟩
    · obtain ⟨h1, h2, h3, h4, h5, h6⟩ := hC
      exact ⟨h1, h2, h3, h4, rfl, h6⟩
    · obtain ⟨h1, h2, h3, h4, h5, h6⟩ := hM
      exact ⟨h1, h2, h3, h4, rfl, h6⟩
  · have eMc := mc_k2 K hK hc24 eH eM mwa mpa mta msh mho mco mne (m1 fp) (mS fp)
    rw [if_neg (by decide)] at eMc
    exact Or.inr ⟨1, p, _, _, _, _, _, _, _, _, _, _, _, _, _, _, _, _, _, _, _, by omega, ⟨by omega, by omega⟩, rc_k2 K hK (by omega) eW eC eF sh ho co al wa pa ta eR (cS fp), eMc⟩
set_option maxHeartbeats 2000000 in
theorem cs_k3 (K : Nat) (hK : 2000 ≤ K) {cb mb : Nat → Int32} {N : Nat} {B : Nat → Nat} (h : TX cb mb N B) {a : Nat} (ha : a ≤ 400) (hb : bl B N a = a) {l : LA} {nr : Nat → Nat} {sh ho co al : Nat → Int32} {wa pa ta : Int32} {msh : Nat → Nat → Int32} {mho mco mne : Nat → Int32} {mwa mpa mta : Int32} (hl : LOK l) (hC : LC l sh ho co al wa pa ta) (hM : LM l nr msh mho mco mne mwa mpa mta) (hs : SYM (lal l)) {c : Nat} (hc : c ≤ 24) (st fp : Int32) (hk : kL B N a = 3) (hc24 : c < 24) : (∃ (l' : LA) (nr' : Nat → Nat) (e : Nat) (st' : Int32) (sh' ho' co' al' : Nat → Int32) (wa' pa' ta' : Int32) (msh' : Nat → Nat → Int32) (mho' mco' mne' : Nat → Int32) (mwa' mpa' mta' : Int32), sp_Law_readClause K sh ho co al wa pa ta (J c) cb (J N) (J a) st (J 0) fp = some (sh', ho', co', al', wa', pa', ta', J (c + 1 : Nat), J e, st', J 0, fp) ∧ sp_M_clause K (J N) (J a) 0 fp mb (J c) mwa mpa mta msh mho mco mne = some (J e, J 0, fp, J (c + 1 : Nat), mwa', mpa', mta', msh', mho', mco', mne') ∧ a < e ∧ e ≤ N ∧ c < 24 ∧ LOK l' ∧ LC l' sh' ho' co' al' wa' pa' ta' ∧ LM l' nr' msh' mho' mco' mne' mwa' mpa' mta' ∧ SYM (lal l')) ∨ (∃ (k p : Nat) (x1 x2 x3 x4 : Nat → Int32) (x5 x6 x7 x8 : Int32) (x9 : Nat) (x10 : Int32) (y1 : Nat) (y2 y3 y4 y5 : Int32) (y6 : Nat → Nat → Int32) (y7 y8 y9 : Nat → Int32), (1 ≤ k ∧ k ≤ 3) ∧ (x9 ≤ 400 ∧ y1 ≤ 400) ∧ sp_Law_readClause K sh ho co al wa pa ta (J c) cb (J N) (J a) st (J 0) fp = some (x1, x2, x3, x4, x5, x6, x7, x8, J x9, x10, J k, J p) ∧ sp_M_clause K (J N) (J a) 0 fp mb (J c) mwa mpa mta msh mho mco mne = some (J y1, J k, J p, y2, y3, y4, y5, y6, y7, y8, y9)) := by
  have hN := h.1
  have rw1 := en_rng 97 122 B N a
  have eW := rc_word K hK h (a := a) (by omega) hb st
  have eC := p_clauseOfWord K hK h (s := a) (by omega)
  have eH := p_clauseHere K hK h (a := a) (by omega) hb
  have eM := p_M_skipWord K hK h (a := a) (by omega)
  rw [hk] at eC eH
  have hw : we B N a ≤ 400 := by unfold we; omega
  have haw : a ≤ we B N a := by unfold we; omega
  change sp_M_skipWord K (J N) (J a) mb = some (J (we B N a : Nat)) at eM
  generalize we B N a = w at *
  have eF := rw_ok K hc24 (kd := 3) (by omega) (J a) fp
  rcases num2 K hK h (lo := 0) (hi := 8) (by omega) (by omega) (a := w) (by omega) with ⟨v1, e1, s1, lo1, hi1, le1, lf1, c1, m1⟩ | ⟨k, p, e1, s1, hkk, lfe1, c1, m1⟩
  rotate_left
  · have hkz : ¬ J (k : Int) = 0 := by rw [show (0 : Int32) = J 0 from rfl, J_eq (by omega) (by omega)]; omega
    have rf := fun lo hi => p_readNumber_f K lo hi cb (J N) (J e1) (J s1) hkk (J p)
    have c1' : ∀ st, sp_Tape_readNumber K (J 0) (J 8) cb (J N) (J w) st (J 0) fp = some (J 0, J e1, J s1, J k, J p) := fun st => c1 st fp
    have eR : sp_Tape_readNumber K 0 8 cb (J N) (J w) (J a) (J 0) fp = some (J 0, J e1, J s1, J k, J p) := c1' (J a)
    have eS := p_semi_f K cb (J N) (J e1) hkk (J p)
    obtain ⟨vv, mm⟩ := m1 fp
    have eMc := mc_k3 K hK hc24 eH eM mwa mpa mta msh mho mco mne mm (p_sign_f K (J N) (J e1) hkk (J p) mb)
    rw [if_neg hkz] at eMc
    exact Or.inr ⟨k, p, _, _, _, _, _, _, _, _, _, _, _, _, _, _, _, _, _, _, _, hkk, ⟨by omega, by omega⟩, rc_k3 K hK (by omega) eW eC eF sh ho co al wa pa ta eR eS, eMc⟩
  have c1' : ∀ st, sp_Tape_readNumber K (J 0) (J 8) cb (J N) (J w) st (J 0) fp = some (J v1, J e1, J s1, J 0, fp) := fun st => c1 st fp
  have eR : sp_Tape_readNumber K 0 8 cb (J N) (J w) (J a) (J 0) fp = some (J v1, J e1, J s1, J 0, fp) := c1' (J a)
  rcases semi2 K hK h (a := e1) (by omega) with ⟨e, le, lf, cS, mS⟩ | ⟨p, lfp, cS, mS⟩
  · have eMc := mc_k3 K hK hc24 eH eM mwa mpa mta msh mho mco mne (m1 fp) (mS fp)
    rw [if_pos (show J 0 = 0 from rfl)] at eMc
    have eCc := rc_k3 K hK (by omega) eW eC eF sh ho co al wa pa ta eR (cS fp)
    refine Or.inl ⟨(l.1, l.2.1, l.2.2.1, l.2.2.2.1, l.2.2.2.2.1, v1, l.2.2.2.2.2.2), nr, e, _, _, _, _, _, _, _, _, _, _, _, _, _, _, _, eCc, eMc, by omega, lf, hc24, ?_, ?_, ?_, hs⟩
    · obtain ⟨h1, h2, h3, h4, h5, h6, h7⟩ := hl
      exact ⟨h1, h2, h3, h4, h5, hi1, h7⟩
    · obtain ⟨h1, h2, h3, h4, h5, h6, h7⟩ := hC
      exact ⟨h1, h2, h3, h4, h5, rfl, h7⟩
    · obtain ⟨h1, h2, h3, h4, h5, h6, h7⟩ := hM
      exact ⟨h1, h2, h3, h4, h5, rfl, h7⟩
  · have eMc := mc_k3 K hK hc24 eH eM mwa mpa mta msh mho mco mne (m1 fp) (mS fp)
    rw [if_neg (by decide)] at eMc
    exact Or.inr ⟨1, p, _, _, _, _, _, _, _, _, _, _, _, _, _, _, _, _, _, _, _, by omega, ⟨by omega, by omega⟩, rc_k3 K hK (by omega) eW eC eF sh ho co al wa pa ta eR (cS fp), eMc⟩
set_option maxHeartbeats 2000000 in
theorem cs_k4 (K : Nat) (hK : 2000 ≤ K) {cb mb : Nat → Int32} {N : Nat} {B : Nat → Nat} (h : TX cb mb N B) {a : Nat} (ha : a ≤ 400) (hb : bl B N a = a) {l : LA} {nr : Nat → Nat} {sh ho co al : Nat → Int32} {wa pa ta : Int32} {msh : Nat → Nat → Int32} {mho mco mne : Nat → Int32} {mwa mpa mta : Int32} (hl : LOK l) (hC : LC l sh ho co al wa pa ta) (hM : LM l nr msh mho mco mne mwa mpa mta) (hs : SYM (lal l)) {c : Nat} (hc : c ≤ 24) (st fp : Int32) (hk : kL B N a = 4) (hc24 : c < 24) : (∃ (l' : LA) (nr' : Nat → Nat) (e : Nat) (st' : Int32) (sh' ho' co' al' : Nat → Int32) (wa' pa' ta' : Int32) (msh' : Nat → Nat → Int32) (mho' mco' mne' : Nat → Int32) (mwa' mpa' mta' : Int32), sp_Law_readClause K sh ho co al wa pa ta (J c) cb (J N) (J a) st (J 0) fp = some (sh', ho', co', al', wa', pa', ta', J (c + 1 : Nat), J e, st', J 0, fp) ∧ sp_M_clause K (J N) (J a) 0 fp mb (J c) mwa mpa mta msh mho mco mne = some (J e, J 0, fp, J (c + 1 : Nat), mwa', mpa', mta', msh', mho', mco', mne') ∧ a < e ∧ e ≤ N ∧ c < 24 ∧ LOK l' ∧ LC l' sh' ho' co' al' wa' pa' ta' ∧ LM l' nr' msh' mho' mco' mne' mwa' mpa' mta' ∧ SYM (lal l')) ∨ (∃ (k p : Nat) (x1 x2 x3 x4 : Nat → Int32) (x5 x6 x7 x8 : Int32) (x9 : Nat) (x10 : Int32) (y1 : Nat) (y2 y3 y4 y5 : Int32) (y6 : Nat → Nat → Int32) (y7 y8 y9 : Nat → Int32), (1 ≤ k ∧ k ≤ 3) ∧ (x9 ≤ 400 ∧ y1 ≤ 400) ∧ sp_Law_readClause K sh ho co al wa pa ta (J c) cb (J N) (J a) st (J 0) fp = some (x1, x2, x3, x4, x5, x6, x7, x8, J x9, x10, J k, J p) ∧ sp_M_clause K (J N) (J a) 0 fp mb (J c) mwa mpa mta msh mho mco mne = some (J y1, J k, J p, y2, y3, y4, y5, y6, y7, y8, y9)) := by
  have hN := h.1
  have rw1 := en_rng 97 122 B N a
  have eW := rc_word K hK h (a := a) (by omega) hb st
  have eC := p_clauseOfWord K hK h (s := a) (by omega)
  have eH := p_clauseHere K hK h (a := a) (by omega) hb
  have eM := p_M_skipWord K hK h (a := a) (by omega)
  rw [hk] at eC eH
  have hw : we B N a ≤ 400 := by unfold we; omega
  have haw : a ≤ we B N a := by unfold we; omega
  change sp_M_skipWord K (J N) (J a) mb = some (J (we B N a : Nat)) at eM
  generalize we B N a = w at *
  have eF := rw_ok K hc24 (kd := 4) (by omega) (J a) fp
  rcases num2 K hK h (lo := 1) (hi := 15) (by omega) (by omega) (a := w) (by omega) with ⟨v1, e1, s1, lo1, hi1, le1, lf1, c1, m1⟩ | ⟨k, p, e1, s1, hkk, lfe1, c1, m1⟩
  rotate_left
  · have hkz : ¬ J (k : Int) = 0 := by rw [show (0 : Int32) = J 0 from rfl, J_eq (by omega) (by omega)]; omega
    have rf := fun lo hi => p_readNumber_f K lo hi cb (J N) (J e1) (J s1) hkk (J p)
    have c1' : ∀ st, sp_Tape_readNumber K (J 1) (J 15) cb (J N) (J w) st (J 0) fp = some (J 1, J e1, J s1, J k, J p) := fun st => c1 st fp
    have eR : sp_Tape_readNumber K 1 15 cb (J N) (J w) (J a) (J 0) fp = some (J 1, J e1, J s1, J k, J p) := c1' (J a)
    have eS := p_semi_f K cb (J N) (J e1) hkk (J p)
    obtain ⟨vv, mm⟩ := m1 fp
    have eMc := mc_k4 K hK hc24 eH eM mwa mpa mta msh mho mco mne mm (p_sign_f K (J N) (J e1) hkk (J p) mb)
    rw [if_neg hkz] at eMc
    exact Or.inr ⟨k, p, _, _, _, _, _, _, _, _, _, _, _, _, _, _, _, _, _, _, _, hkk, ⟨by omega, by omega⟩, rc_k4 K hK (by omega) eW eC eF sh ho co al wa pa ta eR eS, eMc⟩
  have c1' : ∀ st, sp_Tape_readNumber K (J 1) (J 15) cb (J N) (J w) st (J 0) fp = some (J v1, J e1, J s1, J 0, fp) := fun st => c1 st fp
  have eR : sp_Tape_readNumber K 1 15 cb (J N) (J w) (J a) (J 0) fp = some (J v1, J e1, J s1, J 0, fp) := c1' (J a)
  rcases semi2 K hK h (a := e1) (by omega) with ⟨e, le, lf, cS, mS⟩ | ⟨p, lfp, cS, mS⟩
  · have eMc := mc_k4 K hK hc24 eH eM mwa mpa mta msh mho mco mne (m1 fp) (mS fp)
    rw [if_pos (show J 0 = 0 from rfl)] at eMc
    have eCc := rc_k4 K hK (by omega) eW eC eF sh ho co al wa pa ta eR (cS fp)
    refine Or.inl ⟨(l.1, l.2.1, l.2.2.1, l.2.2.2.1, l.2.2.2.2.1, l.2.2.2.2.2.1, v1), nr, e, _, _, _, _, _, _, _, _, _, _, _, _, _, _, _, eCc, eMc, by omega, lf, hc24, ?_, ?_, ?_, hs⟩
    · obtain ⟨h1, h2, h3, h4, h5, h6, h7⟩ := hl
      exact ⟨h1, h2, h3, h4, h5, h6, lo1, hi1⟩
    · obtain ⟨h1, h2, h3, h4, h5, h6, h7⟩ := hC
      exact ⟨h1, h2, h3, h4, h5, h6, rfl⟩
    · obtain ⟨h1, h2, h3, h4, h5, h6, h7, h8⟩ := hM
      exact ⟨h1, h2, h3, h4, h5, h6, rfl, h8⟩
  · have eMc := mc_k4 K hK hc24 eH eM mwa mpa mta msh mho mco mne (m1 fp) (mS fp)
    rw [if_neg (by decide)] at eMc
    exact Or.inr ⟨1, p, _, _, _, _, _, _, _, _, _, _, _, _, _, _, _, _, _, _, _, by omega, ⟨by omega, by omega⟩, rc_k4 K hK (by omega) eW eC eF sh ho co al wa pa ta eR (cS fp), eMc⟩
set_option maxHeartbeats 2000000 in
theorem cs_k6 (K : Nat) (hK : 2000 ≤ K) {cb mb : Nat → Int32} {N : Nat} {B : Nat → Nat} (h : TX cb mb N B) {a : Nat} (ha : a ≤ 400) (hb : bl B N a = a) {l : LA} {nr : Nat → Nat} {sh ho co al : Nat → Int32} {wa pa ta : Int32} {msh : Nat → Nat → Int32} {mho mco mne : Nat → Int32} {mwa mpa mta : Int32} (hl : LOK l) (hC : LC l sh ho co al wa pa ta) (hM : LM l nr msh mho mco mne mwa mpa mta) (hs : SYM (lal l)) {c : Nat} (hc : c ≤ 24) (st fp : Int32) (hk : kL B N a = 6) (hc24 : c < 24) : (∃ (l' : LA) (nr' : Nat → Nat) (e : Nat) (st' : Int32) (sh' ho' co' al' : Nat → Int32) (wa' pa' ta' : Int32) (msh' : Nat → Nat → Int32) (mho' mco' mne' : Nat → Int32) (mwa' mpa' mta' : Int32), sp_Law_readClause K sh ho co al wa pa ta (J c) cb (J N) (J a) st (J 0) fp = some (sh', ho', co', al', wa', pa', ta', J (c + 1 : Nat), J e, st', J 0, fp) ∧ sp_M_clause K (J N) (J a) 0 fp mb (J c) mwa mpa mta msh mho mco mne = some (J e, J 0, fp, J (c + 1 : Nat), mwa', mpa', mta', msh', mho', mco', mne') ∧ a < e ∧ e ≤ N ∧ c < 24 ∧ LOK l' ∧ LC l' sh' ho' co' al' wa' pa' ta' ∧ LM l' nr' msh' mho' mco' mne' mwa' mpa' mta' ∧ SYM (lal l')) ∨ (∃ (k p : Nat) (x1 x2 x3 x4 : Nat → Int32) (x5 x6 x7 x8 : Int32) (x9 : Nat) (x10 : Int32) (y1 : Nat) (y2 y3 y4 y5 : Int32) (y6 : Nat → Nat → Int32) (y7 y8 y9 : Nat → Int32), (1 ≤ k ∧ k ≤ 3) ∧ (x9 ≤ 400 ∧ y1 ≤ 400) ∧ sp_Law_readClause K sh ho co al wa pa ta (J c) cb (J N) (J a) st (J 0) fp = some (x1, x2, x3, x4, x5, x6, x7, x8, J x9, x10, J k, J p) ∧ sp_M_clause K (J N) (J a) 0 fp mb (J c) mwa mpa mta msh mho mco mne = some (J y1, J k, J p, y2, y3, y4, y5, y6, y7, y8, y9)) := by
  have hN := h.1
  have rw1 := en_rng 97 122 B N a
  have eW := rc_word K hK h (a := a) (by omega) hb st
  have eC := p_clauseOfWord K hK h (s := a) (by omega)
  have eH := p_clauseHere K hK h (a := a) (by omega) hb
  have eM := p_M_skipWord K hK h (a := a) (by omega)
  rw [hk] at eC eH
  have hw : we B N a ≤ 400 := by unfold we; omega
  have haw : a ≤ we B N a := by unfold we; omega
  change sp_M_skipWord K (J N) (J a) mb = some (J (we B N a : Nat)) at eM
  generalize we B N a = w at *
  have eF := rw_ok K hc24 (kd := 6) (by omega) (J a) fp
  rcases num2 K hK h (lo := 0) (hi := 9) (by omega) (by omega) (a := w) (by omega) with ⟨v1, e1, s1, lo1, hi1, le1, lf1, c1, m1⟩ | ⟨k, p, e1, s1, hkk, lfe1, c1, m1⟩
  rotate_left
  · have hkz : ¬ J (k : Int) = 0 := by rw [show (0 : Int32) = J 0 from rfl, J_eq (by omega) (by omega)]; omega
    have rf := fun lo hi => p_readNumber_f K lo hi cb (J N) (J e1) (J s1) hkk (J p)
    have c1' : ∀ st, sp_Tape_readNumber K (J 0) (J 9) cb (J N) (J w) st (J 0) fp = some (J 0, J e1, J s1, J k, J p) := fun st => c1 st fp
    obtain ⟨x, eR⟩ : ∃ x, sp_Law_readOfSort K 20 cb (J N) (J w) (J a) (J 0) fp co = some (J e1, J s1, J k, J p, x) := ⟨_, by
      simp (disch := omega) only [sp_Law_readOfSort, c1', rf, J_lit, J_add, J_sub, J_mul, J_neg, J_nat, J_inb, J_div, ↓reduceIte, Int.toNat_natCast, Option.bind_some, J_le_t, J_le_f, J_lt_t, J_lt_f, J_eq_t, J_eq_f, L_lit, L_add, L_sub, L_mul, L_div, JL, LJ, Int.reduceToNat, Int.toNat_zero, Int.toNat_one, xb, xm, within_t, within_f, nb_t, nb_f, ni_t, ni_f, in_t, in_f, less_, bad_0, bad_1, not_true_eq_false, not_false_eq_true, L_lt_t, L_lt_f, L_eq_t, L_eq_f, lg_gt, lg_eq, lg_lt]
      rfl⟩
    have eS := p_semi_f K cb (J N) (J e1) hkk (J p)
    obtain ⟨vv, mm⟩ := m1 fp
    have eMc := mc_k6 K hK hc24 eH eM mwa mpa mta msh mho mco mne mm (p_M_number_f K _ _ _ (J N) (J e1) hkk (J p) mb) (p_sign_f K (J N) (J e1) hkk (J p) mb)
    rw [if_neg hkz] at eMc
    exact Or.inr ⟨k, p, _, _, _, _, _, _, _, _, _, _, _, _, _, _, _, _, _, _, _, hkk, ⟨by omega, by omega⟩, rc_k6 K hK (by omega) eW eC eF sh ho co al wa pa ta eR eS, eMc⟩
  rcases num2 K hK h (lo := 0) (hi := 20) (by omega) (by omega) (a := e1) (by omega) with ⟨v2, e2, s2, lo2, hi2, le2, lf2, c2, m2⟩ | ⟨k, p, e2, s2, hkk, lfe2, c2, m2⟩
  rotate_left
  · have hkz : ¬ J (k : Int) = 0 := by rw [show (0 : Int32) = J 0 from rfl, J_eq (by omega) (by omega)]; omega
    have rf := fun lo hi => p_readNumber_f K lo hi cb (J N) (J e2) (J s2) hkk (J p)
    have c1' : ∀ st, sp_Tape_readNumber K (J 0) (J 9) cb (J N) (J w) st (J 0) fp = some (J v1, J e1, J s1, J 0, fp) := fun st => c1 st fp
    have c2' : ∀ st, sp_Tape_readNumber K (J 0) (J 20) cb (J N) (J e1) st (J 0) fp = some (J 0, J e2, J s2, J k, J p) := fun st => c2 st fp
    obtain ⟨x, eR⟩ : ∃ x, sp_Law_readOfSort K 20 cb (J N) (J w) (J a) (J 0) fp co = some (J e2, J s2, J k, J p, x) := ⟨_, by
      simp (disch := omega) only [sp_Law_readOfSort, c1', c2', rf, J_lit, J_add, J_sub, J_mul, J_neg, J_nat, J_inb, J_div, ↓reduceIte, Int.toNat_natCast, Option.bind_some, J_le_t, J_le_f, J_lt_t, J_lt_f, J_eq_t, J_eq_f, L_lit, L_add, L_sub, L_mul, L_div, JL, LJ, Int.reduceToNat, Int.toNat_zero, Int.toNat_one, xb, xm, within_t, within_f, nb_t, nb_f, ni_t, ni_f, in_t, in_f, less_, bad_0, bad_1, not_true_eq_false, not_false_eq_true, L_lt_t, L_lt_f, L_eq_t, L_eq_f, lg_gt, lg_eq, lg_lt]
      rfl⟩
    have eS := p_semi_f K cb (J N) (J e2) hkk (J p)
    obtain ⟨vv, mm⟩ := m2 fp
    have eMc := mc_k6 K hK hc24 eH eM mwa mpa mta msh mho mco mne (m1 fp) mm (p_sign_f K (J N) (J e2) hkk (J p) mb)
    rw [if_neg hkz] at eMc
    exact Or.inr ⟨k, p, _, _, _, _, _, _, _, _, _, _, _, _, _, _, _, _, _, _, _, hkk, ⟨by omega, by omega⟩, rc_k6 K hK (by omega) eW eC eF sh ho co al wa pa ta eR eS, eMc⟩
  have c1' : ∀ st, sp_Tape_readNumber K (J 0) (J 9) cb (J N) (J w) st (J 0) fp = some (J v1, J e1, J s1, J 0, fp) := fun st => c1 st fp
  have c2' : ∀ st, sp_Tape_readNumber K (J 0) (J 20) cb (J N) (J e1) st (J 0) fp = some (J v2, J e2, J s2, J 0, fp) := fun st => c2 st fp
  have eR : sp_Law_readOfSort K 20 cb (J N) (J w) (J a) (J 0) fp co = some (J e2, J s2, J 0, fp, upd co v1 (J v2)) := by
    clear c1 c2 m1 m2 h
    simp (disch := omega) only [sp_Law_readOfSort, c1', c2', J_lit, J_add, J_sub, J_mul, J_neg, J_nat, J_inb, J_div, ↓reduceIte, Int.toNat_natCast, Option.bind_some, J_le_t, J_le_f, J_lt_t, J_lt_f, J_eq_t, J_eq_f, L_lit, L_add, L_sub, L_mul, L_div, JL, LJ, Int.reduceToNat, Int.toNat_zero, Int.toNat_one, xb, xm, within_t, within_f, nb_t, nb_f, ni_t, ni_f, in_t, in_f, less_, bad_0, bad_1, not_true_eq_false, not_false_eq_true, L_lt_t, L_lt_f, L_eq_t, L_eq_f, lg_gt, lg_eq, lg_lt]
  rcases semi2 K hK h (a := e2) (by omega) with ⟨e, le, lf, cS, mS⟩ | ⟨p, lfp, cS, mS⟩
  · have eMc := mc_k6 K hK hc24 eH eM mwa mpa mta msh mho mco mne (m1 fp) (m2 fp) (mS fp)
    rw [if_pos (show J 0 = 0 from rfl), if_pos (inbJ (v := v1) (by omega) (by omega)), natJ (v := v1) (by omega)] at eMc
    have eCc := rc_k6 K hK (by omega) eW eC eF sh ho co al wa pa ta eR (cS fp)
    refine Or.inl ⟨(l.1, l.2.1, va_up (lco l) v1 v2, l.2.2.2), nr, e, _, _, _, _, _, _, _, _, _, _, _, _, _, _, _, eCc, eMc, by omega, lf, hc24, ?_, ?_, ?_, hs⟩
    · obtain ⟨h1, h2, h3, h4⟩ := hl
      refine ⟨h1, h2, fun q hq => ?_, h4⟩
      show va_up (lco l) v1 v2 q ≤ 20
      unfold va_up
      split
      · omega
      · exact h3 q hq
    · obtain ⟨h1, h2, h3, h4⟩ := hC
      refine ⟨h1, h2, fun q hq => ?_, h4⟩
      show upd co v1 (J v2) q = J (va_up (lco l) v1 v2 q : Nat)
      unfold upd va_up
      split
      · rfl
      · exact h3 q hq
    · obtain ⟨h1, h2, h3, h4⟩ := hM
      refine ⟨h1, h2, fun q hq => ?_, h4⟩
      show upd mco v1 (J v2) q = J (va_up (lco l) v1 v2 q : Nat)
      unfold upd va_up
      split
      · rfl
      · exact h3 q hq
  · have eMc := mc_k6 K hK hc24 eH eM mwa mpa mta msh mho mco mne (m1 fp) (m2 fp) (mS fp)
    rw [if_neg (by decide)] at eMc
    exact Or.inr ⟨1, p, _, _, _, _, _, _, _, _, _, _, _, _, _, _, _, _, _, _, _, by omega, ⟨by omega, by omega⟩, rc_k6 K hK (by omega) eW eC eF sh ho co al wa pa ta eR (cS fp), eMc⟩
