def shT (D A : Nat → Int) (i : Nat) : Int := 1000 * D i / A i
def shS (S D : Nat → Int) (s : Int) : Nat → Int
  | 0 => 0
  | i + 1 => if S i = s then shS S D s i + D i else shS S D s i
def shN (S T : Nat → Int) (s : Int) : Nat → Int
  | 0 => -1
  | i + 1 => if S i = s then (if shN S T s i = -1 then T i else min (T i) (shN S T s i)) else shN S T s i
def shX (S T : Nat → Int) (s : Int) : Nat → Int
  | 0 => -1
  | i + 1 => if S i = s then max (shX S T s i) (T i) else shX S T s i
set_option maxHeartbeats 2000000 in
theorem shT_rng {D A : Nat → Int} {i : Nat} (h : 0 ≤ D i ∧ D i ≤ A i ∧ 1 ≤ A i) : 0 ≤ shT D A i ∧ shT D A i ≤ 1000 := by
  unfold shT
  refine ⟨Int.ediv_nonneg (by omega) (by omega), ?_⟩
  have h1 : 1000 * D i ≤ 1000 * A i := by omega
  have h2 := Int.ediv_le_ediv (by omega : 0 < A i) h1
  rw [Int.mul_ediv_cancel _ (by omega)] at h2
  exact h2
set_option maxHeartbeats 2000000 in
theorem shS_rng {S D : Nat → Int} {s : Int} {n : Nat} (h : ∀ i, i < n → 0 ≤ D i ∧ D i ≤ 1000000) : ∀ i, i ≤ n → 0 ≤ shS S D s i ∧ shS S D s i ≤ 1000000 * i
  | 0, _ => ⟨Int.le_refl _, Int.le_refl _⟩
  | i + 1, hi => by
    have h1 := shS_rng (S := S) (s := s) h i (by omega)
    have h2 := h i (by omega)
    rw [shS]; split <;> omega
set_option maxHeartbeats 2000000 in
theorem shS_le {S D A : Nat → Int} {s : Int} {n : Nat} (h : ∀ i, i < n → D i ≤ A i) : ∀ i, i ≤ n → shS S D s i ≤ shS S A s i
  | 0, _ => Int.le_refl _
  | i + 1, hi => by
    have h1 := shS_le (S := S) (s := s) h i (by omega)
    have h2 := h i (by omega)
    rw [shS, shS]; split <;> omega
set_option maxHeartbeats 2000000 in
theorem shN_rng {S T : Nat → Int} {s : Int} {n : Nat} (h : ∀ i, i < n → 0 ≤ T i ∧ T i ≤ 1000) : ∀ i, i ≤ n → -1 ≤ shN S T s i ∧ shN S T s i ≤ 1000
  | 0, _ => ⟨Int.le_refl _, by show (-1 : Int) ≤ 1000; decide⟩
  | i + 1, hi => by
    have h1 := shN_rng h i (by omega) (S := S) (s := s)
    have h2 := h i (by omega)
    rw [shN]; split
    · split <;> omega
    · omega
set_option maxHeartbeats 2000000 in
theorem shX_rng {S T : Nat → Int} {s : Int} {n : Nat} (h : ∀ i, i < n → 0 ≤ T i ∧ T i ≤ 1000) : ∀ i, i ≤ n → -1 ≤ shX S T s i ∧ shX S T s i ≤ 1000
  | 0, _ => ⟨Int.le_refl _, by show (-1 : Int) ≤ 1000; decide⟩
  | i + 1, hi => by
    have h1 := shX_rng h i (by omega) (S := S) (s := s)
    have h2 := h i (by omega)
    rw [shX]; split <;> omega
set_option maxHeartbeats 2000000 in
theorem sh_none {S A T : Nat → Int} {s : Int} {n : Nat} (h : ∀ i, i < n → 1 ≤ A i) : ∀ i, i ≤ n → 0 ≤ shS S A s i ∧ (shS S A s i = 0 → shN S T s i = -1 ∧ shX S T s i = -1)
  | 0, _ => ⟨Int.le_refl _, fun _ => ⟨rfl, rfl⟩⟩
  | i + 1, hi => by
    have h1 := sh_none (S := S) (T := T) (s := s) h i (by omega)
    have h2 := h i (by omega)
    rw [shS, shN, shX]
    split
    · exact ⟨by omega, fun e => by omega⟩
    · exact h1
set_option maxHeartbeats 2000000 in
theorem p_thousandths (K : Nat) {d a : Int} (hd : 0 ≤ d ∧ d ≤ 1000000000) (ha : 0 ≤ a ∧ a ≤ 1000000000) : sp_Shops_thousandths K (L d) (L a) = some (J (if a = 0 then -1 else 1000 * d / a)) := by
  by_cases h : a = 0
  · subst h
    rw [if_pos rfl]
    simp (disch := omega) only [sp_Shops_thousandths, J_lit, J_add, J_sub, J_mul, J_neg, J_nat, J_inb, J_div, ↓reduceIte, Int.toNat_natCast, Option.bind_some, J_le_t, J_le_f, J_lt_t, J_lt_f, J_eq_t, J_eq_f, L_lit, L_add, L_sub, L_mul, L_div, JL, LJ, Int.reduceToNat, Int.toNat_zero, Int.toNat_one, xb, xm, within_t, within_f, nb_t, nb_f, ni_t, ni_f, in_t, in_f, less_, bad_0, bad_1, not_true_eq_false, not_false_eq_true, L_lt_t, L_lt_f, L_eq_t, L_eq_f, lg_gt, lg_eq, lg_lt]
  · rw [if_neg h]
    simp (disch := omega) only [sp_Shops_thousandths, J_lit, J_add, J_sub, J_mul, J_neg, J_nat, J_inb, J_div, ↓reduceIte, Int.toNat_natCast, Option.bind_some, J_le_t, J_le_f, J_lt_t, J_lt_f, J_eq_t, J_eq_f, L_lit, L_add, L_sub, L_mul, L_div, JL, LJ, Int.reduceToNat, Int.toNat_zero, Int.toNat_one, xb, xm, within_t, within_f, nb_t, nb_f, ni_t, ni_f, in_t, in_f, less_, bad_0, bad_1, not_true_eq_false, not_false_eq_true, L_lt_t, L_lt_f, L_eq_t, L_eq_f, lg_gt, lg_eq, lg_lt]
set_option maxHeartbeats 2000000 in
theorem pc_rare (K : Nat) (hK : 1000 ≤ K) (p1 p2 thr : Int32) {c1 c2 c3 : Nat → Int32} {cn : Int32} {ms : Nat → Nat → Int32} {mn : Int32} (R : RShops c1 c2 c3 cn ms mn) (o : Nat → Int64) : ∃ oc om, sp_W_rare K p1 p2 c1 c2 c3 cn o = some oc ∧ sp_M_rare K p1 p2 thr mn ms = some om ∧ AA oc.1 oc.2 om.1 om.2 := by
  obtain ⟨n, S, D, A, hn, rfl, rfl, hv, h1, h2, h3, g1, g2, g3⟩ := R
  obtain ⟨a, rfl, ha⟩ := ex_J p1
  obtain ⟨b, rfl, hb⟩ := ex_J p2
  by_cases ha' : 0 ≤ a ∧ a < 10
  · have n1 := nb_t K (a := a) (b := 10) (by omega)
    have i1 := in_t K (a := a) (b := 0) (c := 9) (by omega) (by omega) (by omega) (by omega)
    by_cases hb' : 0 ≤ b ∧ b ≤ 2
    · have i2 := in_t K (a := b) (b := 0) (c := 2) (by omega) (by omega) (by omega) (by omega)
      obtain ⟨T, hT⟩ : ∃ T, T = shT D A := ⟨_, rfl⟩
      have hTi : ∀ i, 1000 * D i / A i = T i := fun i => by rw [hT]; rfl
      have hTr : ∀ i, i < n → 0 ≤ T i ∧ T i ≤ 1000 := fun i hi => by
        have := hv i hi
        rw [hT]; exact shT_rng (by omega)
      have rD := shS_rng (S := S) (D := D) (s := a) (n := n) (fun i hi => by have := hv i hi; omega)
      have rA := shS_rng (S := S) (D := A) (s := a) (n := n) (fun i hi => by have := hv i hi; omega)
      have rN := shN_rng (S := S) (s := a) hTr
      have rX := shX_rng (S := S) (s := a) hTr
      have rE := sh_none (S := S) (A := A) (T := T) (s := a) (n := n) (fun i hi => by have := hv i hi; omega) n (Nat.le_refl _)
      have rL := shS_le (S := S) (D := D) (A := A) (s := a) (n := n) (fun i hi => by have := hv i hi; omega) n (Nat.le_refl _)
      obtain ⟨m, q1, q3⟩ := lpe (fun k s => f_M_rare K (J n) ms k 2 s) (fun i => (J a, J b, J 0, L (shS S D a i), L (shS S A a i), J (shN S T a i), J (shX S T a i), J i, J 0, J 0)) 5 n (by
        intro i hi m
        obtain ⟨⟨v1, v2⟩, v3, v4, v5, v6⟩ := hv i hi
        have e1 := g1 i hi
        have e2 := g2 i hi
        have e3 := g3 i hi
        have k1 := rD i (by omega)
        have k2 := rA i (by omega)
        have k3 := rN i (by omega)
        have k4 := rX i (by omega)
        have k5 := hTr i hi
        have k6 := hTi i
        rw [shS, shS, shN, shX]
        generalize shS S D a i = sd at *
        generalize shS S A a i = sa at *
        generalize shN S T a i = sn at *
        generalize shX S T a i = sx at *
        generalize D i = d at *
        generalize A i = aa at *
        generalize T i = t at *
        generalize S i = s at *
        clear rD rA rN rX rE rL hTr hTi hT h1 h2 h3 g1 g2 g3 hv
        by_cases hs : s = a
        · simp only [if_pos hs]
          obtain ⟨sn', hsn'⟩ : ∃ x, x = (if sn = -1 then t else min t sn) := ⟨_, rfl⟩
          rw [← hsn']
          subst hs
          have stA : (∀ m, f_M_rare K (J n) ms (m + 5) 2 (J s, J b, J 0, L sd, L sa, J sn, J sx, J i, J 0, J 0) = f_M_rare K (J n) ms m 2 (J s, J b, J 0, L (sd + d), L (sa + aa), J sn', J (max sx t), J (i + 1 : Nat), J 0, J 0)) ∨ (∀ m, f_M_rare K (J n) ms (m + 4) 2 (J s, J b, J 0, L sd, L sa, J sn, J sx, J i, J 0, J 0) = f_M_rare K (J n) ms m 2 (J s, J b, J 0, L (sd + d), L (sa + aa), J sn', J (max sx t), J (i + 1 : Nat), J 0, J 0)) := by
            obtain ⟨mx, hmx, hmx2⟩ : ∃ mx, max sx t = mx ∧ ((t ≤ sx ∧ mx = sx) ∨ (sx < t ∧ mx = t)) := ⟨_, rfl, by omega⟩
            rw [hmx]
            clear hmx
            by_cases hn1 : sn = -1
            · left
              intro m
              rw [if_pos hn1] at hsn'
              subst hsn' hn1
              rcases hmx2 with ⟨x1, x2⟩ | ⟨x1, x2⟩
              · subst x2
                simp (disch := omega) only [f_M_rare, e1, e2, e3, k6, cast1, J_lit, J_add, J_sub, J_mul, J_neg, J_nat, J_inb, J_div, ↓reduceIte, Int.toNat_natCast, Option.bind_some, J_le_t, J_le_f, J_lt_t, J_lt_f, J_eq_t, J_eq_f, L_lit, L_add, L_sub, L_mul, L_div, JL, LJ, Int.reduceToNat, Int.toNat_zero, Int.toNat_one, xb, xm, within_t, within_f, nb_t, nb_f, ni_t, ni_f, in_t, in_f, less_, bad_0, bad_1, not_true_eq_false, not_false_eq_true, L_lt_t, L_lt_f, L_eq_t, L_eq_f, lg_gt, lg_eq, lg_lt]
              · subst x2
                simp (disch := omega) only [f_M_rare, e1, e2, e3, k6, cast1, J_lit, J_add, J_sub, J_mul, J_neg, J_nat, J_inb, J_div, ↓reduceIte, Int.toNat_natCast, Option.bind_some, J_le_t, J_le_f, J_lt_t, J_lt_f, J_eq_t, J_eq_f, L_lit, L_add, L_sub, L_mul, L_div, JL, LJ, Int.reduceToNat, Int.toNat_zero, Int.toNat_one, xb, xm, within_t, within_f, nb_t, nb_f, ni_t, ni_f, in_t, in_f, less_, bad_0, bad_1, not_true_eq_false, not_false_eq_true, L_lt_t, L_lt_f, L_eq_t, L_eq_f, lg_gt, lg_eq, lg_lt]
            · rw [if_neg hn1] at hsn'
              by_cases hn2 : sn ≤ t
              · right
                intro m
                have : sn' = sn := by omega
                subst this
                clear hsn'
                rcases hmx2 with ⟨x1, x2⟩ | ⟨x1, x2⟩
                · subst x2
                  simp (disch := omega) only [f_M_rare, e1, e2, e3, k6, cast1, J_lit, J_add, J_sub, J_mul, J_neg, J_nat, J_inb, J_div, ↓reduceIte, Int.toNat_natCast, Option.bind_some, J_le_t, J_le_f, J_lt_t, J_lt_f, J_eq_t, J_eq_f, L_lit, L_add, L_sub, L_mul, L_div, JL, LJ, Int.reduceToNat, Int.toNat_zero, Int.toNat_one, xb, xm, within_t, within_f, nb_t, nb_f, ni_t, ni_f, in_t, in_f, less_, bad_0, bad_1, not_true_eq_false, not_false_eq_true, L_lt_t, L_lt_f, L_eq_t, L_eq_f, lg_gt, lg_eq, lg_lt]
                · subst x2
                  simp (disch := omega) only [f_M_rare, e1, e2, e3, k6, cast1, J_lit, J_add, J_sub, J_mul, J_neg, J_nat, J_inb, J_div, ↓reduceIte, Int.toNat_natCast, Option.bind_some, J_le_t, J_le_f, J_lt_t, J_lt_f, J_eq_t, J_eq_f, L_lit, L_add, L_sub, L_mul, L_div, JL, LJ, Int.reduceToNat, Int.toNat_zero, Int.toNat_one, xb, xm, within_t, within_f, nb_t, nb_f, ni_t, ni_f, in_t, in_f, less_, bad_0, bad_1, not_true_eq_false, not_false_eq_true, L_lt_t, L_lt_f, L_eq_t, L_eq_f, lg_gt, lg_eq, lg_lt]
              · left
                intro m
                have : sn' = t := by omega
                subst this
                clear hsn'
                rcases hmx2 with ⟨x1, x2⟩ | ⟨x1, x2⟩
                · subst x2
                  simp (disch := omega) only [f_M_rare, e1, e2, e3, k6, cast1, J_lit, J_add, J_sub, J_mul, J_neg, J_nat, J_inb, J_div, ↓reduceIte, Int.toNat_natCast, Option.bind_some, J_le_t, J_le_f, J_lt_t, J_lt_f, J_eq_t, J_eq_f, L_lit, L_add, L_sub, L_mul, L_div, JL, LJ, Int.reduceToNat, Int.toNat_zero, Int.toNat_one, xb, xm, within_t, within_f, nb_t, nb_f, ni_t, ni_f, in_t, in_f, less_, bad_0, bad_1, not_true_eq_false, not_false_eq_true, L_lt_t, L_lt_f, L_eq_t, L_eq_f, lg_gt, lg_eq, lg_lt]
                · subst x2
                  simp (disch := omega) only [f_M_rare, e1, e2, e3, k6, cast1, J_lit, J_add, J_sub, J_mul, J_neg, J_nat, J_inb, J_div, ↓reduceIte, Int.toNat_natCast, Option.bind_some, J_le_t, J_le_f, J_lt_t, J_lt_f, J_eq_t, J_eq_f, L_lit, L_add, L_sub, L_mul, L_div, JL, LJ, Int.reduceToNat, Int.toNat_zero, Int.toNat_one, xb, xm, within_t, within_f, nb_t, nb_f, ni_t, ni_f, in_t, in_f, less_, bad_0, bad_1, not_true_eq_false, not_false_eq_true, L_lt_t, L_lt_f, L_eq_t, L_eq_f, lg_gt, lg_eq, lg_lt]
          rcases stA with e | e
          · exact ⟨m, by omega, e m⟩
          · exact ⟨m + 1, by omega, e (m + 1)⟩
        · simp only [if_neg hs]
          have st2 : ∀ m, f_M_rare K (J n) ms (m + 2) 2 (J a, J b, J 0, L sd, L sa, J sn, J sx, J i, J 0, J 0) = f_M_rare K (J n) ms m 2 (J a, J b, J 0, L sd, L sa, J sn, J sx, J (i + 1 : Nat), J 0, J 0) := fun m => by
            simp (disch := omega) only [f_M_rare, e1, cast1, J_lit, J_add, J_sub, J_mul, J_neg, J_nat, J_inb, J_div, ↓reduceIte, Int.toNat_natCast, Option.bind_some, J_le_t, J_le_f, J_lt_t, J_lt_f, J_eq_t, J_eq_f, L_lit, L_add, L_sub, L_mul, L_div, JL, LJ, Int.reduceToNat, Int.toNat_zero, Int.toNat_one, xb, xm, within_t, within_f, nb_t, nb_f, ni_t, ni_f, in_t, in_f, less_, bad_0, bad_1, not_true_eq_false, not_false_eq_true, L_lt_t, L_lt_f, L_eq_t, L_eq_f, lg_gt, lg_eq, lg_lt]
          exact ⟨m + 3, by omega, st2 (m + 3)⟩) (K - 1) (by omega)
      have rDn := rD n (Nat.le_refl _)
      have rAn := rA n (Nat.le_refl _)
      have rNn := rN n (Nat.le_refl _)
      have rXn := rX n (Nat.le_refl _)
      obtain ⟨k, rfl⟩ : ∃ k, K = k + 1 := ⟨K - 1, by omega⟩
      rw [show k + 1 - 1 = k by omega] at q3
      have eM0 : sp_M_rare (k + 1) (J a) (J b) thr (J n) ms = f_M_rare (k + 1) (J n) ms k 2 (J a, J b, J 0, L (shS S D a 0), L (shS S A a 0), J (shN S T a 0), J (shX S T a 0), J (0 : Nat), J 0, J 0) := by
        clear q3 rD rA rN rX rE rL hTr hTi hT h1 h2 h3 g1 g2 g3 hv
        simp (disch := omega) only [sp_M_rare, i1, i2, J_lit, J_add, J_sub, J_mul, J_neg, J_nat, J_inb, J_div, ↓reduceIte, Int.toNat_natCast, Option.bind_some, J_le_t, J_le_f, J_lt_t, J_lt_f, J_eq_t, J_eq_f, L_lit, L_add, L_sub, L_mul, L_div, JL, LJ, Int.reduceToNat, Int.toNat_zero, Int.toNat_one, xb, xm, within_t, within_f, nb_t, nb_f, ni_t, ni_f, in_t, in_f, less_, bad_0, bad_1, not_true_eq_false, not_false_eq_true, L_lt_t, L_lt_f, L_eq_t, L_eq_f, lg_gt, lg_eq, lg_lt]
        rw [f_M_rare]
        simp (disch := omega) only [shS, shN, shX, J_lit, J_add, J_sub, J_mul, J_neg, J_nat, J_inb, J_div, ↓reduceIte, Int.toNat_natCast, Option.bind_some, J_le_t, J_le_f, J_lt_t, J_lt_f, J_eq_t, J_eq_f, L_lit, L_add, L_sub, L_mul, L_div, JL, LJ, Int.reduceToNat, Int.toNat_zero, Int.toNat_one, xb, xm, within_t, within_f, nb_t, nb_f, ni_t, ni_f, in_t, in_f, less_, bad_0, bad_1, not_true_eq_false, not_false_eq_true, L_lt_t, L_lt_f, L_eq_t, L_eq_f, lg_gt, lg_eq, lg_lt]
        rfl
      by_cases hb0 : b = 0
      · subst hb0
        obtain ⟨m2, w1, w3⟩ := lpe (fun k' s => f_Shops_rareInAll (k + 1) c1 c2 c3 (J n) k' 0 s) (fun i => (J a, L (shS S D a i), L (shS S A a i), J i)) 2 n (by
          intro i hi m
          obtain ⟨⟨v1, v2⟩, v3, v4, v5, v6⟩ := hv i hi
          have e1 := h1 i hi
          have e2 := h2 i hi
          have e3 := h3 i hi
          have k1 := rD i (by omega)
          have k2 := rA i (by omega)
          refine ⟨m, by omega, ?_⟩
          rw [shS, shS]
          clear q3 rD rA rN rX rE rL hTr hTi hT h1 h2 h3 g1 g2 g3 hv eM0 rDn rAn rNn rXn
          by_cases hs : S i = a
          · rw [if_pos hs, if_pos hs]
            simp (disch := omega) only [f_Shops_rareInAll, e1, e2, e3, hs, cast1, J_lit, J_add, J_sub, J_mul, J_neg, J_nat, J_inb, J_div, ↓reduceIte, Int.toNat_natCast, Option.bind_some, J_le_t, J_le_f, J_lt_t, J_lt_f, J_eq_t, J_eq_f, L_lit, L_add, L_sub, L_mul, L_div, JL, LJ, Int.reduceToNat, Int.toNat_zero, Int.toNat_one, xb, xm, within_t, within_f, nb_t, nb_f, ni_t, ni_f, in_t, in_f, less_, bad_0, bad_1, not_true_eq_false, not_false_eq_true, L_lt_t, L_lt_f, L_eq_t, L_eq_f, lg_gt, lg_eq, lg_lt]
          · rw [if_neg hs, if_neg hs]
            simp (disch := omega) only [f_Shops_rareInAll, e1, cast1, J_lit, J_add, J_sub, J_mul, J_neg, J_nat, J_inb, J_div, ↓reduceIte, Int.toNat_natCast, Option.bind_some, J_le_t, J_le_f, J_lt_t, J_lt_f, J_eq_t, J_eq_f, L_lit, L_add, L_sub, L_mul, L_div, JL, LJ, Int.reduceToNat, Int.toNat_zero, Int.toNat_one, xb, xm, within_t, within_f, nb_t, nb_f, ni_t, ni_f, in_t, in_f, less_, bad_0, bad_1, not_true_eq_false, not_false_eq_true, L_lt_t, L_lt_f, L_eq_t, L_eq_f, lg_gt, lg_eq, lg_lt]) (k + 1) (by omega)
        obtain ⟨m2, rfl⟩ : ∃ q, m2 = q + 1 := ⟨m2 - 1, by omega⟩
        have eT := p_thousandths (k + 1) (d := shS S D a n) (a := shS S A a n) (by omega) (by omega)
        have eC : sp_Shops_rareInAll (k + 1) (J a) c1 c2 c3 (J n) = some (J (if shS S A a n = 0 then -1 else 1000 * shS S D a n / shS S A a n)) := by
          have e0 : sp_Shops_rareInAll (k + 1) (J a) c1 c2 c3 (J n) = f_Shops_rareInAll (k + 1) c1 c2 c3 (J n) (k + 1) 0 (J a, L (shS S D a 0), L (shS S A a 0), J (0 : Nat)) := rfl
          rw [e0]
          refine Eq.trans w3 ?_
          clear q3 w3 rD rA rN rX rE rL hTr hTi hT h1 h2 h3 g1 g2 g3 hv eM0
          simp (disch := omega) only [f_Shops_rareInAll, eT, J_lit, J_add, J_sub, J_mul, J_neg, J_nat, J_inb, J_div, ↓reduceIte, Int.toNat_natCast, Option.bind_some, J_le_t, J_le_f, J_lt_t, J_lt_f, J_eq_t, J_eq_f, L_lit, L_add, L_sub, L_mul, L_div, JL, LJ, Int.reduceToNat, Int.toNat_zero, Int.toNat_one, xb, xm, within_t, within_f, nb_t, nb_f, ni_t, ni_f, in_t, in_f, less_, bad_0, bad_1, not_true_eq_false, not_false_eq_true, L_lt_t, L_lt_f, L_eq_t, L_eq_f, lg_gt, lg_eq, lg_lt]
        have hq : 0 ≤ 1000 * shS S D a n / shS S A a n ∧ 1000 * shS S D a n / shS S A a n ≤ 1000 * shS S D a n := ⟨Int.ediv_nonneg (by omega) (by omega), Int.ediv_le_self _ (by omega)⟩
        have hq2 : shS S A a n ≠ 0 → 1000 * shS S D a n / shS S A a n ≤ 1000 := fun hne => by
          have h1 : 1000 * shS S D a n ≤ 1000 * shS S A a n := by omega
          have h2 := Int.ediv_le_ediv (by omega : 0 < shS S A a n) h1
          rw [Int.mul_ediv_cancel _ hne] at h2
          exact h2
        have eM : sp_M_rare (k + 1) (J a) (J 0) thr (J n) ms = some (J (if shS S A a n = 0 then -1 else 1000 * shS S D a n / shS S A a n), J 0) := by
          rw [eM0]
          refine Eq.trans q3 ?_
          clear q3 w3 rD rA rN rX rE rL hTr hTi hT h1 h2 h3 g1 g2 g3 hv eM0 eC
          by_cases hz : shS S A a n = 0
          · rw [if_pos hz]
            simp (disch := omega) only [f_M_rare, J_lit, J_add, J_sub, J_mul, J_neg, J_nat, J_inb, J_div, ↓reduceIte, Int.toNat_natCast, Option.bind_some, J_le_t, J_le_f, J_lt_t, J_lt_f, J_eq_t, J_eq_f, L_lit, L_add, L_sub, L_mul, L_div, JL, LJ, Int.reduceToNat, Int.toNat_zero, Int.toNat_one, xb, xm, within_t, within_f, nb_t, nb_f, ni_t, ni_f, in_t, in_f, less_, bad_0, bad_1, not_true_eq_false, not_false_eq_true, L_lt_t, L_lt_f, L_eq_t, L_eq_f, lg_gt, lg_eq, lg_lt]
          · rw [if_neg hz]
            simp (disch := omega) only [f_M_rare, J_lit, J_add, J_sub, J_mul, J_neg, J_nat, J_inb, J_div, ↓reduceIte, Int.toNat_natCast, Option.bind_some, J_le_t, J_le_f, J_lt_t, J_lt_f, J_eq_t, J_eq_f, L_lit, L_add, L_sub, L_mul, L_div, JL, LJ, Int.reduceToNat, Int.toNat_zero, Int.toNat_one, xb, xm, within_t, within_f, nb_t, nb_f, ni_t, ni_f, in_t, in_f, less_, bad_0, bad_1, not_true_eq_false, not_false_eq_true, L_lt_t, L_lt_f, L_eq_t, L_eq_f, lg_gt, lg_eq, lg_lt]
        have hr : -2147483648 ≤ (if shS S A a n = 0 then -1 else 1000 * shS S D a n / shS S A a n) ∧ (if shS S A a n = 0 then -1 else 1000 * shS S D a n / shS S A a n) < 2147483648 := by
          split
          · omega
          · next hz => have := hq2 hz; omega
        refine ⟨(J 0, vp_updL o 0 (L (if shS S A a n = 0 then -1 else 1000 * shS S D a n / shS S A a n))), _, ?_, eM, AA_L o hr⟩
        generalize (if shS S A a n = 0 then -1 else 1000 * shS S D a n / shS S A a n) = V at *
        clear q3 w3 rD rA rN rX rE rL hTr hTi hT h1 h2 h3 g1 g2 g3 hv eM0 eM hq hq2 eT
        simp (disch := omega) only [sp_W_rare, sp_rare, n1, eC, J_lit, J_add, J_sub, J_mul, J_neg, J_nat, J_inb, J_div, ↓reduceIte, Int.toNat_natCast, Option.bind_some, J_le_t, J_le_f, J_lt_t, J_lt_f, J_eq_t, J_eq_f, L_lit, L_add, L_sub, L_mul, L_div, JL, LJ, Int.reduceToNat, Int.toNat_zero, Int.toNat_one, xb, xm, within_t, within_f, nb_t, nb_f, ni_t, ni_f, in_t, in_f, less_, bad_0, bad_1, not_true_eq_false, not_false_eq_true, L_lt_t, L_lt_f, L_eq_t, L_eq_f, lg_gt, lg_eq, lg_lt]
      · by_cases hb1 : b = 1
        · subst hb1
          obtain ⟨m2, w1, w3⟩ := lpe (fun k' s => f_Shops_rareAtLeast (k + 1) c1 c2 c3 (J n) k' 0 s) (fun i => (J a, J (shN S T a i), J i, J 0)) 3 n (by
            intro i hi m
            obtain ⟨⟨v1, v2⟩, v3, v4, v5, v6⟩ := hv i hi
            have e1 := h1 i hi
            have e2 := h2 i hi
            have e3 := h3 i hi
            have k3 := rN i (by omega)
            have k5 := hTr i hi
            have eT := p_thousandths (k + 1) (d := D i) (a := A i) (by omega) (by omega)
            rw [if_neg (by omega), hTi i] at eT
            rw [shN]
            clear q3 rD rA rN rX rE rL hTr hTi hT h1 h2 h3 g1 g2 g3 hv eM0 rDn rAn rNn rXn
            generalize shN S T a i = sn at *
            by_cases hs : S i = a
            · rw [if_pos hs]
              refine ⟨m, by omega, ?_⟩
              by_cases hn1 : sn = -1
              · rw [if_pos hn1]
                subst hn1
                simp (disch := omega) only [f_Shops_rareAtLeast, e1, e2, e3, hs, eT, cast1, J_lit, J_add, J_sub, J_mul, J_neg, J_nat, J_inb, J_div, ↓reduceIte, Int.toNat_natCast, Option.bind_some, J_le_t, J_le_f, J_lt_t, J_lt_f, J_eq_t, J_eq_f, L_lit, L_add, L_sub, L_mul, L_div, JL, LJ, Int.reduceToNat, Int.toNat_zero, Int.toNat_one, xb, xm, within_t, within_f, nb_t, nb_f, ni_t, ni_f, in_t, in_f, less_, bad_0, bad_1, not_true_eq_false, not_false_eq_true, L_lt_t, L_lt_f, L_eq_t, L_eq_f, lg_gt, lg_eq, lg_lt]
              · rw [if_neg hn1]
                simp (disch := omega) only [f_Shops_rareAtLeast, e1, e2, e3, hs, eT, minJ, cast1, J_lit, J_add, J_sub, J_mul, J_neg, J_nat, J_inb, J_div, ↓reduceIte, Int.toNat_natCast, Option.bind_some, J_le_t, J_le_f, J_lt_t, J_lt_f, J_eq_t, J_eq_f, L_lit, L_add, L_sub, L_mul, L_div, JL, LJ, Int.reduceToNat, Int.toNat_zero, Int.toNat_one, xb, xm, within_t, within_f, nb_t, nb_f, ni_t, ni_f, in_t, in_f, less_, bad_0, bad_1, not_true_eq_false, not_false_eq_true, L_lt_t, L_lt_f, L_eq_t, L_eq_f, lg_gt, lg_eq, lg_lt]
            · rw [if_neg hs]
              refine ⟨m + 1, by omega, ?_⟩
              have st2 : ∀ m, f_Shops_rareAtLeast (k + 1) c1 c2 c3 (J n) (m + 2) 0 (J a, J sn, J i, J 0) = f_Shops_rareAtLeast (k + 1) c1 c2 c3 (J n) m 0 (J a, J sn, J (i + 1 : Nat), J 0) := fun m => by
                simp (disch := omega) only [f_Shops_rareAtLeast, e1, cast1, J_lit, J_add, J_sub, J_mul, J_neg, J_nat, J_inb, J_div, ↓reduceIte, Int.toNat_natCast, Option.bind_some, J_le_t, J_le_f, J_lt_t, J_lt_f, J_eq_t, J_eq_f, L_lit, L_add, L_sub, L_mul, L_div, JL, LJ, Int.reduceToNat, Int.toNat_zero, Int.toNat_one, xb, xm, within_t, within_f, nb_t, nb_f, ni_t, ni_f, in_t, in_f, less_, bad_0, bad_1, not_true_eq_false, not_false_eq_true, L_lt_t, L_lt_f, L_eq_t, L_eq_f, lg_gt, lg_eq, lg_lt]
              exact st2 (m + 1)) (k + 1) (by omega)
          have eC : sp_Shops_rareAtLeast (k + 1) (J a) c1 c2 c3 (J n) = some (J (shN S T a n)) := by
            have e0 : sp_Shops_rareAtLeast (k + 1) (J a) c1 c2 c3 (J n) = f_Shops_rareAtLeast (k + 1) c1 c2 c3 (J n) (k + 1) 0 (J a, J (shN S T a 0), J (0 : Nat), J 0) := rfl
            rw [e0]
            refine Eq.trans w3 ?_
            clear q3 w3 rD rA rN rX rE rL hTr hTi hT h1 h2 h3 g1 g2 g3 hv eM0
            simp (disch := omega) only [f_Shops_rareAtLeast, J_lit, J_add, J_sub, J_mul, J_neg, J_nat, J_inb, J_div, ↓reduceIte, Int.toNat_natCast, Option.bind_some, J_le_t, J_le_f, J_lt_t, J_lt_f, J_eq_t, J_eq_f, L_lit, L_add, L_sub, L_mul, L_div, JL, LJ, Int.reduceToNat, Int.toNat_zero, Int.toNat_one, xb, xm, within_t, within_f, nb_t, nb_f, ni_t, ni_f, in_t, in_f, less_, bad_0, bad_1, not_true_eq_false, not_false_eq_true, L_lt_t, L_lt_f, L_eq_t, L_eq_f, lg_gt, lg_eq, lg_lt]
          have eM : sp_M_rare (k + 1) (J a) (J 1) thr (J n) ms = some (J (shN S T a n), J 0) := by
            rw [eM0]
            refine Eq.trans q3 ?_
            by_cases hz : shS S A a n = 0
            · rw [(rE.2 hz).1]
              clear q3 w3 rD rA rN rX rE rL hTr hTi hT h1 h2 h3 g1 g2 g3 hv eM0 eC
              simp (disch := omega) only [f_M_rare, J_lit, J_add, J_sub, J_mul, J_neg, J_nat, J_inb, J_div, ↓reduceIte, Int.toNat_natCast, Option.bind_some, J_le_t, J_le_f, J_lt_t, J_lt_f, J_eq_t, J_eq_f, L_lit, L_add, L_sub, L_mul, L_div, JL, LJ, Int.reduceToNat, Int.toNat_zero, Int.toNat_one, xb, xm, within_t, within_f, nb_t, nb_f, ni_t, ni_f, in_t, in_f, less_, bad_0, bad_1, not_true_eq_false, not_false_eq_true, L_lt_t, L_lt_f, L_eq_t, L_eq_f, lg_gt, lg_eq, lg_lt]
            · clear q3 w3 rD rA rN rX rE rL hTr hTi hT h1 h2 h3 g1 g2 g3 hv eM0 eC
              simp (disch := omega) only [f_M_rare, J_lit, J_add, J_sub, J_mul, J_neg, J_nat, J_inb, J_div, ↓reduceIte, Int.toNat_natCast, Option.bind_some, J_le_t, J_le_f, J_lt_t, J_lt_f, J_eq_t, J_eq_f, L_lit, L_add, L_sub, L_mul, L_div, JL, LJ, Int.reduceToNat, Int.toNat_zero, Int.toNat_one, xb, xm, within_t, within_f, nb_t, nb_f, ni_t, ni_f, in_t, in_f, less_, bad_0, bad_1, not_true_eq_false, not_false_eq_true, L_lt_t, L_lt_f, L_eq_t, L_eq_f, lg_gt, lg_eq, lg_lt]
          refine ⟨(J 0, vp_updL o 0 (L (shN S T a n))), _, ?_, eM, AA_L o (by omega)⟩
          clear q3 w3 rD rA rN rX rE rL hTr hTi hT h1 h2 h3 g1 g2 g3 hv eM0 eM
          simp (disch := omega) only [sp_W_rare, sp_rare, n1, eC, J_lit, J_add, J_sub, J_mul, J_neg, J_nat, J_inb, J_div, ↓reduceIte, Int.toNat_natCast, Option.bind_some, J_le_t, J_le_f, J_lt_t, J_lt_f, J_eq_t, J_eq_f, L_lit, L_add, L_sub, L_mul, L_div, JL, LJ, Int.reduceToNat, Int.toNat_zero, Int.toNat_one, xb, xm, within_t, within_f, nb_t, nb_f, ni_t, ni_f, in_t, in_f, less_, bad_0, bad_1, not_true_eq_false, not_false_eq_true, L_lt_t, L_lt_f, L_eq_t, L_eq_f, lg_gt, lg_eq, lg_lt]
        · obtain rfl : b = 2 := by omega
          obtain ⟨m2, w1, w3⟩ := lpe (fun k' s => f_Shops_rareAtMost (k + 1) c1 c2 c3 (J n) k' 0 s) (fun i => (J a, J (shX S T a i), J i)) 2 n (by
            intro i hi m
            obtain ⟨⟨v1, v2⟩, v3, v4, v5, v6⟩ := hv i hi
            have e1 := h1 i hi
            have e2 := h2 i hi
            have e3 := h3 i hi
            have k3 := rX i (by omega)
            have k5 := hTr i hi
            have eT := p_thousandths (k + 1) (d := D i) (a := A i) (by omega) (by omega)
            rw [if_neg (by omega), hTi i] at eT
            rw [shX]
            refine ⟨m, by omega, ?_⟩
            clear q3 rD rA rN rX rE rL hTr hTi hT h1 h2 h3 g1 g2 g3 hv eM0 rDn rAn rNn rXn
            generalize shX S T a i = sx at *
            by_cases hs : S i = a
            · rw [if_pos hs]
              by_cases hx : sx < T i
              · rw [Int.max_eq_right (by omega)]
                simp (disch := omega) only [f_Shops_rareAtMost, e1, e2, e3, hs, eT, cast1, J_lit, J_add, J_sub, J_mul, J_neg, J_nat, J_inb, J_div, ↓reduceIte, Int.toNat_natCast, Option.bind_some, J_le_t, J_le_f, J_lt_t, J_lt_f, J_eq_t, J_eq_f, L_lit, L_add, L_sub, L_mul, L_div, JL, LJ, Int.reduceToNat, Int.toNat_zero, Int.toNat_one, xb, xm, within_t, within_f, nb_t, nb_f, ni_t, ni_f, in_t, in_f, less_, bad_0, bad_1, not_true_eq_false, not_false_eq_true, L_lt_t, L_lt_f, L_eq_t, L_eq_f, lg_gt, lg_eq, lg_lt]
              · rw [Int.max_eq_left (by omega)]
                simp (disch := omega) only [f_Shops_rareAtMost, e1, e2, e3, hs, eT, cast1, J_lit, J_add, J_sub, J_mul, J_neg, J_nat, J_inb, J_div, ↓reduceIte, Int.toNat_natCast, Option.bind_some, J_le_t, J_le_f, J_lt_t, J_lt_f, J_eq_t, J_eq_f, L_lit, L_add, L_sub, L_mul, L_div, JL, LJ, Int.reduceToNat, Int.toNat_zero, Int.toNat_one, xb, xm, within_t, within_f, nb_t, nb_f, ni_t, ni_f, in_t, in_f, less_, bad_0, bad_1, not_true_eq_false, not_false_eq_true, L_lt_t, L_lt_f, L_eq_t, L_eq_f, lg_gt, lg_eq, lg_lt]
            · rw [if_neg hs]
              simp (disch := omega) only [f_Shops_rareAtMost, e1, cast1, J_lit, J_add, J_sub, J_mul, J_neg, J_nat, J_inb, J_div, ↓reduceIte, Int.toNat_natCast, Option.bind_some, J_le_t, J_le_f, J_lt_t, J_lt_f, J_eq_t, J_eq_f, L_lit, L_add, L_sub, L_mul, L_div, JL, LJ, Int.reduceToNat, Int.toNat_zero, Int.toNat_one, xb, xm, within_t, within_f, nb_t, nb_f, ni_t, ni_f, in_t, in_f, less_, bad_0, bad_1, not_true_eq_false, not_false_eq_true, L_lt_t, L_lt_f, L_eq_t, L_eq_f, lg_gt, lg_eq, lg_lt]) (k + 1) (by omega)
          have eC : sp_Shops_rareAtMost (k + 1) (J a) c1 c2 c3 (J n) = some (J (shX S T a n)) := by
            have e0 : sp_Shops_rareAtMost (k + 1) (J a) c1 c2 c3 (J n) = f_Shops_rareAtMost (k + 1) c1 c2 c3 (J n) (k + 1) 0 (J a, J (shX S T a 0), J (0 : Nat)) := rfl
            rw [e0]
            refine Eq.trans w3 ?_
            clear q3 w3 rD rA rN rX rE rL hTr hTi hT h1 h2 h3 g1 g2 g3 hv eM0
            simp (disch := omega) only [f_Shops_rareAtMost, J_lit, J_add, J_sub, J_mul, J_neg, J_nat, J_inb, J_div, ↓reduceIte, Int.toNat_natCast, Option.bind_some, J_le_t, J_le_f, J_lt_t, J_lt_f, J_eq_t, J_eq_f, L_lit, L_add, L_sub, L_mul, L_div, JL, LJ, Int.reduceToNat, Int.toNat_zero, Int.toNat_one, xb, xm, within_t, within_f, nb_t, nb_f, ni_t, ni_f, in_t, in_f, less_, bad_0, bad_1, not_true_eq_false, not_false_eq_true, L_lt_t, L_lt_f, L_eq_t, L_eq_f, lg_gt, lg_eq, lg_lt]
          have eM : sp_M_rare (k + 1) (J a) (J 2) thr (J n) ms = some (J (shX S T a n), J 0) := by
            rw [eM0]
            refine Eq.trans q3 ?_
            by_cases hz : shS S A a n = 0
            · rw [(rE.2 hz).2]
              clear q3 w3 rD rA rN rX rE rL hTr hTi hT h1 h2 h3 g1 g2 g3 hv eM0 eC
              simp (disch := omega) only [f_M_rare, J_lit, J_add, J_sub, J_mul, J_neg, J_nat, J_inb, J_div, ↓reduceIte, Int.toNat_natCast, Option.bind_some, J_le_t, J_le_f, J_lt_t, J_lt_f, J_eq_t, J_eq_f, L_lit, L_add, L_sub, L_mul, L_div, JL, LJ, Int.reduceToNat, Int.toNat_zero, Int.toNat_one, xb, xm, within_t, within_f, nb_t, nb_f, ni_t, ni_f, in_t, in_f, less_, bad_0, bad_1, not_true_eq_false, not_false_eq_true, L_lt_t, L_lt_f, L_eq_t, L_eq_f, lg_gt, lg_eq, lg_lt]
            · clear q3 w3 rD rA rN rX rE rL hTr hTi hT h1 h2 h3 g1 g2 g3 hv eM0 eC
              simp (disch := omega) only [f_M_rare, J_lit, J_add, J_sub, J_mul, J_neg, J_nat, J_inb, J_div, ↓reduceIte, Int.toNat_natCast, Option.bind_some, J_le_t, J_le_f, J_lt_t, J_lt_f, J_eq_t, J_eq_f, L_lit, L_add, L_sub, L_mul, L_div, JL, LJ, Int.reduceToNat, Int.toNat_zero, Int.toNat_one, xb, xm, within_t, within_f, nb_t, nb_f, ni_t, ni_f, in_t, in_f, less_, bad_0, bad_1, not_true_eq_false, not_false_eq_true, L_lt_t, L_lt_f, L_eq_t, L_eq_f, lg_gt, lg_eq, lg_lt]
          refine ⟨(J 0, vp_updL o 0 (L (shX S T a n))), _, ?_, eM, AA_L o (by omega)⟩
          clear q3 w3 rD rA rN rX rE rL hTr hTi hT h1 h2 h3 g1 g2 g3 hv eM0 eM
          simp (disch := omega) only [sp_W_rare, sp_rare, n1, eC, J_lit, J_add, J_sub, J_mul, J_neg, J_nat, J_inb, J_div, ↓reduceIte, Int.toNat_natCast, Option.bind_some, J_le_t, J_le_f, J_lt_t, J_lt_f, J_eq_t, J_eq_f, L_lit, L_add, L_sub, L_mul, L_div, JL, LJ, Int.reduceToNat, Int.toNat_zero, Int.toNat_one, xb, xm, within_t, within_f, nb_t, nb_f, ni_t, ni_f, in_t, in_f, less_, bad_0, bad_1, not_true_eq_false, not_false_eq_true, L_lt_t, L_lt_f, L_eq_t, L_eq_f, lg_gt, lg_eq, lg_lt]
    · have i2 := in_f K (a := b) (b := 0) (c := 2) hb (by omega) (by omega) (by omega)
      obtain ⟨k, rfl⟩ : ∃ k, K = k + 2 := ⟨K - 2, by omega⟩
      have i1' : sp_M_in (k + 2) (J a) 0 9 = some (1 : Int32) := i1
      have i2' : sp_M_in (k + 2) (J b) 0 2 = some (0 : Int32) := i2
      have hb0 : b ≠ 0 := by omega
      have hb1 : b ≠ 1 := by omega
      have hb2 : b ≠ 2 := by omega
      exact ⟨_, _, by simp (disch := omega) only [sp_W_rare, sp_rare, n1, J_lit, J_add, J_sub, J_mul, J_neg, J_nat, J_inb, J_div, ↓reduceIte, Int.toNat_natCast, Option.bind_some, J_le_t, J_le_f, J_lt_t, J_lt_f, J_eq_t, J_eq_f, L_lit, L_add, L_sub, L_mul, L_div, JL, LJ, Int.reduceToNat, Int.toNat_zero, Int.toNat_one, xb, xm, within_t, within_f, nb_t, nb_f, ni_t, ni_f, in_t, in_f, less_, bad_0, bad_1, not_true_eq_false, not_false_eq_true, L_lt_t, L_lt_f, L_eq_t, L_eq_f, lg_gt, lg_eq, lg_lt]; rfl, by simp only [sp_M_rare, i1', i2', f_M_rare, lbad1 (k + 2) (by omega), Option.bind_some, ↓reduceIte, lt10, lt20, lt00, lj00, lj10, lj20, xb, xm]; rfl, ⟨rfl, fun h => by cases h⟩⟩
  · have n1 := nb_f K ha (b := 10) (by omega) (by omega)
    have i1 := in_f K (a := a) (b := 0) (c := 9) ha (by omega) (by omega) (by omega)
    obtain ⟨k, rfl⟩ : ∃ k, K = k + 2 := ⟨K - 2, by omega⟩
    have i1' : sp_M_in (k + 2) (J a) 0 9 = some (0 : Int32) := i1
    exact ⟨_, _, by simp (disch := omega) only [sp_W_rare, sp_rare, n1, J_lit, J_add, J_sub, J_mul, J_neg, J_nat, J_inb, J_div, ↓reduceIte, Int.toNat_natCast, Option.bind_some, J_le_t, J_le_f, J_lt_t, J_lt_f, J_eq_t, J_eq_f, L_lit, L_add, L_sub, L_mul, L_div, JL, LJ, Int.reduceToNat, Int.toNat_zero, Int.toNat_one, xb, xm, within_t, within_f, nb_t, nb_f, ni_t, ni_f, in_t, in_f, less_, bad_0, bad_1, not_true_eq_false, not_false_eq_true, L_lt_t, L_lt_f, L_eq_t, L_eq_f, lg_gt, lg_eq, lg_lt]; rfl, by simp only [sp_M_rare, i1', f_M_rare, lbad1 (k + 2) (by omega), Option.bind_some, ↓reduceIte, lt10, lt20, lt00, lj00, lj10, lj20, xb, xm]; rfl, ⟨rfl, fun h => by cases h⟩⟩
def BT (b : Nat) : Int := if b < 128 then (b : Int) else (b : Int) - 256
set_option maxHeartbeats 2000000 in
theorem nar_b (x : Int32) : vp_nar .byte x = x.toInt8.toInt32 := rfl
def bv (w : Int32) (s : Nat) : Nat := ((w >>> J s).toInt % 256).toNat
set_option maxHeartbeats 2000000 in
theorem byte_ (v : Int32) : v &&& J 255 = J (v.toInt % 256).toNat ∧ vp_nar .byte v.toInt8.toInt32 = J (BT (v.toInt % 256).toNat) := by
  obtain ⟨a, rfl, ha⟩ := ex_J v
  rw [J_toInt ha.1 ha.2]
  refine ⟨?_, ?_⟩
  · apply Int32.toBitVec_inj.mp
    rw [Int32.toBitVec_and]
    apply BitVec.eq_of_toNat_eq
    show (BitVec.ofInt 32 a &&& BitVec.ofInt 32 255).toNat = (BitVec.ofInt 32 ((a % 256).toNat : Int)).toNat
    rw [BitVec.toNat_and, BitVec.toNat_ofInt, BitVec.toNat_ofInt, BitVec.toNat_ofInt]
    have h1 : ((255 : Int) % (2 ^ 32 : Nat)).toNat = 2 ^ 8 - 1 := by decide
    rw [h1, Nat.and_two_pow_sub_one_eq_mod]
    have e1 : (2 ^ 32 : Nat) = 4294967296 := rfl
    have e2 : (2 ^ 8 : Nat) = 256 := rfl
    rw [e1, e2]
    omega
  · rw [nar_b]
    have h1 : (J a).toInt8.toInt32.toInt8.toInt32 = (J a).toInt8.toInt32 := by
      rw [Int8.toInt8_toInt32]
    rw [h1, ← Int32.toInt_inj, Int8.toInt_toInt32]
    have h2 : (J a).toInt8.toInt = a.bmod 256 := by
      rw [Int32.toInt_toInt8, J_toInt ha.1 ha.2]
    rw [h2, J_toInt (by unfold BT; split <;> omega) (by unfold BT; split <;> omega), Int.bmod_def]
    unfold BT
    split <;> split <;> omega
set_option maxHeartbeats 2000000 in
theorem bv_lt (w : Int32) (s : Nat) : bv w s < 256 := by unfold bv; omega
set_option maxHeartbeats 2000000 in
theorem bv_m (w : Int32) (s : Nat) : (w >>> J s) &&& J 255 = J (bv w s) := (byte_ _).1
set_option maxHeartbeats 2000000 in
theorem bv_c (w : Int32) (s : Nat) : vp_nar .byte (w >>> J s).toInt8.toInt32 = J (BT (bv w s)) := (byte_ _).2
set_option maxHeartbeats 2000000 in
theorem mk24 : J 24 &&& J 31 = J (24 : Nat) := by decide
set_option maxHeartbeats 2000000 in
theorem mk16 : J 16 &&& J 31 = J (16 : Nat) := by decide
set_option maxHeartbeats 2000000 in
theorem mk8 : J 8 &&& J 31 = J (8 : Nat) := by decide
set_option maxHeartbeats 2000000 in
theorem mk0 : J 0 &&& J 31 = J (0 : Nat) := by decide
set_option maxHeartbeats 2000000 in
theorem p_append (K : Nat) (hK : 1000 ≤ K) (w : Int32) {n : Nat} (hn : n ≤ 396) (cb : Nat → Int32) : ∃ cb', sp_Tape_append K w cb (J n) = some (cb', J (n + 4 : Nat)) ∧ (∀ i, i < n → cb' i = cb i) ∧ ∀ k, k < 4 → cb' (n + k) = J (BT (bv w (24 - 8 * k))) := by
  obtain ⟨K, rfl⟩ : ∃ k, K = k + 5 := ⟨K - 5, by omega⟩
  refine ⟨upd (upd (upd (upd cb n (J (BT (bv w 24)))) (n + 1) (J (BT (bv w 16)))) (n + 2) (J (BT (bv w 8)))) (n + 3) (J (BT (bv w 0))), ?_, fun i hi => ?_, fun k hk => ?_⟩
  · have e1 : (n : Int) + 1 = ((n + 1 : Nat) : Int) := by omega
    have e2 : ((n + 1 : Nat) : Int) + 1 = ((n + 2 : Nat) : Int) := by omega
    have e3 : ((n + 2 : Nat) : Int) + 1 = ((n + 3 : Nat) : Int) := by omega
    have e4 : ((n + 3 : Nat) : Int) + 1 = ((n + 4 : Nat) : Int) := by omega
    simp (disch := omega) only [sp_Tape_append, f_Tape_append, mk24, mk16, mk8, mk0, bv_c, e1, e2, e3, e4, J_lit, J_add, J_sub, J_mul, J_neg, J_nat, J_inb, J_div, ↓reduceIte, Int.toNat_natCast, Option.bind_some, J_le_t, J_le_f, J_lt_t, J_lt_f, J_eq_t, J_eq_f, L_lit, L_add, L_sub, L_mul, L_div, JL, LJ, Int.reduceToNat, Int.toNat_zero, Int.toNat_one, xb, xm, within_t, within_f, nb_t, nb_f, ni_t, ni_f, in_t, in_f, less_, bad_0, bad_1, not_true_eq_false, not_false_eq_true, L_lt_t, L_lt_f, L_eq_t, L_eq_f, lg_gt, lg_eq, lg_lt]
    simp only [show (24 : Int) + -8 = 16 from rfl, show (16 : Int) + -8 = 8 from rfl, show (8 : Int) + -8 = 0 from rfl, mk16, mk8, mk0, bv_c]
  · unfold upd; rw [if_neg (by omega), if_neg (by omega), if_neg (by omega), if_neg (by omega)]
  · have : k = 0 ∨ k = 1 ∨ k = 2 ∨ k = 3 := by omega
    unfold upd
    rcases this with rfl | rfl | rfl | rfl
    · rw [if_neg (by omega), if_neg (by omega), if_neg (by omega), if_pos (by omega)]
    · rw [if_neg (by omega), if_neg (by omega), if_pos (by omega)]
    · rw [if_neg (by omega), if_pos (by omega)]
    · rw [if_pos (by omega)]
def RT (cb : Nat → Int32) (cn : Int32) (mb : Nat → Int32) (mn : Int32) (n : Nat) (B : Nat → Nat) : Prop := n ≤ 400 ∧ cn = J n ∧ mn = J n ∧ (∀ i, i < n → B i < 256) ∧ (∀ i, i < n → cb i = J (BT (B i))) ∧ ∀ i, i < n → mb i = J (B i)
def WD (p1 p2 p3 p4 p5 : Int32) (i : Nat) : Int32 := if i < 4 then p1 else if i < 8 then p2 else if i < 12 then p3 else if i < 16 then p4 else p5
set_option maxHeartbeats 2000000 in
theorem pc_feed (K : Nat) (hK : 1000 ≤ K) (p1 p2 p3 p4 p5 thr : Int32) {cb : Nat → Int32} {cn : Int32} {mb : Nat → Int32} {mn : Int32} {n : Nat} {B : Nat → Nat} (R : RT cb cn mb mn n B) : ∃ oc om, sp_feed K p1 p2 p3 p4 p5 cb cn = some oc ∧ sp_M_feed K p1 p2 p3 p4 p5 thr mn mb = some om ∧ oc.1 = om.1 ∧ om.2.1 = J 0 ∧ ∃ n' B', RT oc.2.1 oc.2.2 om.2.2.2 om.2.2.1 n' B' := by
  have R' := R
  obtain ⟨hn, rfl, rfl, hB, hc, hm⟩ := R
  by_cases h : n ≤ 380
  · obtain ⟨d1, a1, b1, e1⟩ := p_append K hK p1 (n := n) (by omega) cb
    obtain ⟨d2, a2, b2, e2⟩ := p_append K hK p2 (n := n + 4) (by omega) d1
    obtain ⟨d3, a3, b3, e3⟩ := p_append K hK p3 (n := n + 4 + 4) (by omega) d2
    obtain ⟨d4, a4, b4, e4⟩ := p_append K hK p4 (n := n + 4 + 4 + 4) (by omega) d3
    obtain ⟨d5, a5, b5, e5⟩ := p_append K hK p5 (n := n + 4 + 4 + 4 + 4) (by omega) d4
    obtain ⟨m, s, g1, ⟨G, rfl, hG1, hG2⟩, g3⟩ := lp (fun k s => f_M_feed K k 0 s) (fun i s => ∃ G : Nat → Int32, s = (p1, p2, p3, p4, p5, J i, J 0, J 0, J (n + i : Nat), G) ∧ (∀ q, q < n → G q = mb q) ∧ ∀ q, q < i → G (n + q) = J (bv (WD p1 p2 p3 p4 p5 q) (24 - 8 * (q % 4)))) 2 20 (by
      rintro i hi s ⟨G, rfl, hG1, hG2⟩ m
      have hmod : (24 : Int) - 8 * ((i : Int) - (i : Int) / 4 * 4) = ((24 - 8 * (i % 4) : Nat) : Int) := by omega
      have hmk := J_msk (s := 24 - 8 * (i % 4)) (by omega)
      rw [show J ((31 : Nat) : Int) = J 31 from rfl] at hmk
      have e9 : ((n + i : Nat) : Int) + 1 = ((n + (i + 1) : Nat) : Int) := by omega
      have ebv := bv_m (WD p1 p2 p3 p4 p5 i) (24 - 8 * (i % 4))
      refine ⟨m, (p1, p2, p3, p4, p5, J (i + 1 : Nat), J 0, J 0, J (n + (i + 1) : Nat), upd G (n + i) (J (bv (WD p1 p2 p3 p4 p5 i) (24 - 8 * (i % 4))))), by omega, ⟨_, rfl, fun q hq => ?_, fun q hq => ?_⟩, ?_⟩
      · unfold upd; rw [if_neg (by omega)]; exact hG1 q hq
      · unfold upd
        by_cases hqi : q = i
        · subst hqi; rw [if_pos rfl]
        · rw [if_neg (by omega)]; exact hG2 q (by omega)
      · generalize bv (WD p1 p2 p3 p4 p5 i) (24 - 8 * (i % 4)) = V at *
        have hbr : i < 4 ∨ (4 ≤ i ∧ i < 8) ∨ (8 ≤ i ∧ i < 12) ∨ (12 ≤ i ∧ i < 16) ∨ 16 ≤ i := by omega
        clear hG1 hG2 R' a1 a2 a3 a4 a5 b1 b2 b3 b4 b5 e1 e2 e3 e4 e5 hB hc hm
        unfold WD at ebv
        rcases hbr with h1 | h1 | h1 | h1 | h1
        · rw [if_pos h1] at ebv
          simp (disch := omega) only [f_M_feed, hmod, hmk, ebv, cast1, e9, J_lit, J_add, J_sub, J_mul, J_neg, J_nat, J_inb, J_div, ↓reduceIte, Int.toNat_natCast, Option.bind_some, J_le_t, J_le_f, J_lt_t, J_lt_f, J_eq_t, J_eq_f, L_lit, L_add, L_sub, L_mul, L_div, JL, LJ, Int.reduceToNat, Int.toNat_zero, Int.toNat_one, xb, xm, within_t, within_f, nb_t, nb_f, ni_t, ni_f, in_t, in_f, less_, bad_0, bad_1, not_true_eq_false, not_false_eq_true, L_lt_t, L_lt_f, L_eq_t, L_eq_f, lg_gt, lg_eq, lg_lt]
        · rw [if_neg (by omega), if_pos (by omega)] at ebv
          simp (disch := omega) only [f_M_feed, hmod, hmk, ebv, cast1, e9, J_lit, J_add, J_sub, J_mul, J_neg, J_nat, J_inb, J_div, ↓reduceIte, Int.toNat_natCast, Option.bind_some, J_le_t, J_le_f, J_lt_t, J_lt_f, J_eq_t, J_eq_f, L_lit, L_add, L_sub, L_mul, L_div, JL, LJ, Int.reduceToNat, Int.toNat_zero, Int.toNat_one, xb, xm, within_t, within_f, nb_t, nb_f, ni_t, ni_f, in_t, in_f, less_, bad_0, bad_1, not_true_eq_false, not_false_eq_true, L_lt_t, L_lt_f, L_eq_t, L_eq_f, lg_gt, lg_eq, lg_lt]
        · rw [if_neg (by omega), if_neg (by omega), if_pos (by omega)] at ebv
          simp (disch := omega) only [f_M_feed, hmod, hmk, ebv, cast1, e9, J_lit, J_add, J_sub, J_mul, J_neg, J_nat, J_inb, J_div, ↓reduceIte, Int.toNat_natCast, Option.bind_some, J_le_t, J_le_f, J_lt_t, J_lt_f, J_eq_t, J_eq_f, L_lit, L_add, L_sub, L_mul, L_div, JL, LJ, Int.reduceToNat, Int.toNat_zero, Int.toNat_one, xb, xm, within_t, within_f, nb_t, nb_f, ni_t, ni_f, in_t, in_f, less_, bad_0, bad_1, not_true_eq_false, not_false_eq_true, L_lt_t, L_lt_f, L_eq_t, L_eq_f, lg_gt, lg_eq, lg_lt]
        · rw [if_neg (by omega), if_neg (by omega), if_neg (by omega), if_pos (by omega)] at ebv
          simp (disch := omega) only [f_M_feed, hmod, hmk, ebv, cast1, e9, J_lit, J_add, J_sub, J_mul, J_neg, J_nat, J_inb, J_div, ↓reduceIte, Int.toNat_natCast, Option.bind_some, J_le_t, J_le_f, J_lt_t, J_lt_f, J_eq_t, J_eq_f, L_lit, L_add, L_sub, L_mul, L_div, JL, LJ, Int.reduceToNat, Int.toNat_zero, Int.toNat_one, xb, xm, within_t, within_f, nb_t, nb_f, ni_t, ni_f, in_t, in_f, less_, bad_0, bad_1, not_true_eq_false, not_false_eq_true, L_lt_t, L_lt_f, L_eq_t, L_eq_f, lg_gt, lg_eq, lg_lt]
        · rw [if_neg (by omega), if_neg (by omega), if_neg (by omega), if_neg (by omega)] at ebv
          simp (disch := omega) only [f_M_feed, hmod, hmk, ebv, cast1, e9, J_lit, J_add, J_sub, J_mul, J_neg, J_nat, J_inb, J_div, ↓reduceIte, Int.toNat_natCast, Option.bind_some, J_le_t, J_le_f, J_lt_t, J_lt_f, J_eq_t, J_eq_f, L_lit, L_add, L_sub, L_mul, L_div, JL, LJ, Int.reduceToNat, Int.toNat_zero, Int.toNat_one, xb, xm, within_t, within_f, nb_t, nb_f, ni_t, ni_f, in_t, in_f, less_, bad_0, bad_1, not_true_eq_false, not_false_eq_true, L_lt_t, L_lt_f, L_eq_t, L_eq_f, lg_gt, lg_eq, lg_lt]) (p1, p2, p3, p4, p5, J (0 : Nat), J 0, J 0, J (n + 0 : Nat), mb) ⟨mb, rfl, fun _ _ => rfl, fun q hq => by omega⟩ K (by omega)
    obtain ⟨m, rfl⟩ : ∃ k, m = k + 1 := ⟨m - 1, by omega⟩
    refine ⟨(J (n + 20 : Nat), d5, J (n + 20 : Nat)), (J (n + 20 : Nat), J 0, J (n + 20 : Nat), G), ?_, ?_, rfl, rfl, n + 20, fun i => if i < n then B i else bv (WD p1 p2 p3 p4 p5 (i - n)) (24 - 8 * ((i - n) % 4)), by omega, rfl, rfl, fun i hi => ?_, fun i hi => ?_, fun i hi => ?_⟩
    · have e20 : n + 4 + 4 + 4 + 4 + 4 = n + 20 := by omega
      rw [e20] at a5
      clear g3 hG1 hG2 hB hc hm b1 b2 b3 b4 b5 e1 e2 e3 e4 e5 R'
      simp (disch := omega) only [sp_feed, a1, a2, a3, a4, a5, J_lit, J_add, J_sub, J_mul, J_neg, J_nat, J_inb, J_div, ↓reduceIte, Int.toNat_natCast, Option.bind_some, J_le_t, J_le_f, J_lt_t, J_lt_f, J_eq_t, J_eq_f, L_lit, L_add, L_sub, L_mul, L_div, JL, LJ, Int.reduceToNat, Int.toNat_zero, Int.toNat_one, xb, xm, within_t, within_f, nb_t, nb_f, ni_t, ni_f, in_t, in_f, less_, bad_0, bad_1, not_true_eq_false, not_false_eq_true, L_lt_t, L_lt_f, L_eq_t, L_eq_f, lg_gt, lg_eq, lg_lt]
    · have e0 : sp_M_feed K p1 p2 p3 p4 p5 thr (J n) mb = f_M_feed K K 0 (p1, p2, p3, p4, p5, J (0 : Nat), J 0, J 0, J (n + 0 : Nat), mb) := by
        clear g3 hG1 hG2 hB hc hm b1 b2 b3 b4 b5 e1 e2 e3 e4 e5 R'
        simp (disch := omega) only [sp_M_feed, Nat.add_zero, J_lit, J_add, J_sub, J_mul, J_neg, J_nat, J_inb, J_div, ↓reduceIte, Int.toNat_natCast, Option.bind_some, J_le_t, J_le_f, J_lt_t, J_lt_f, J_eq_t, J_eq_f, L_lit, L_add, L_sub, L_mul, L_div, JL, LJ, Int.reduceToNat, Int.toNat_zero, Int.toNat_one, xb, xm, within_t, within_f, nb_t, nb_f, ni_t, ni_f, in_t, in_f, less_, bad_0, bad_1, not_true_eq_false, not_false_eq_true, L_lt_t, L_lt_f, L_eq_t, L_eq_f, lg_gt, lg_eq, lg_lt]
        rfl
      rw [e0]
      refine Eq.trans g3 ?_
      clear g3 hG1 hG2 hB hc hm b1 b2 b3 b4 b5 e1 e2 e3 e4 e5 R'
      simp (disch := omega) only [f_M_feed, J_lit, J_add, J_sub, J_mul, J_neg, J_nat, J_inb, J_div, ↓reduceIte, Int.toNat_natCast, Option.bind_some, J_le_t, J_le_f, J_lt_t, J_lt_f, J_eq_t, J_eq_f, L_lit, L_add, L_sub, L_mul, L_div, JL, LJ, Int.reduceToNat, Int.toNat_zero, Int.toNat_one, xb, xm, within_t, within_f, nb_t, nb_f, ni_t, ni_f, in_t, in_f, less_, bad_0, bad_1, not_true_eq_false, not_false_eq_true, L_lt_t, L_lt_f, L_eq_t, L_eq_f, lg_gt, lg_eq, lg_lt]
    · simp only; split
      · exact hB i (by assumption)
      · exact bv_lt _ _
    · simp only
      by_cases h0 : i < n
      · rw [if_pos h0, b5 i (by omega), b4 i (by omega), b3 i (by omega), b2 i (by omega), b1 i (by omega)]
        exact hc i h0
      · rw [if_neg h0]
        unfold WD
        by_cases h4 : i < n + 4
        · have := e1 (i - n) (by omega)
          rw [show n + (i - n) = i by omega] at this
          rw [b5 i (by omega), b4 i (by omega), b3 i (by omega), b2 i (by omega), this, if_pos (by omega), Nat.mod_eq_of_lt (by omega)]
        · by_cases h8 : i < n + 8
          · have := e2 (i - n - 4) (by omega)
            rw [show n + 4 + (i - n - 4) = i by omega] at this
            rw [b5 i (by omega), b4 i (by omega), b3 i (by omega), this, if_neg (by omega), if_pos (by omega), show (i - n) % 4 = i - n - 4 by omega]
          · by_cases h12 : i < n + 12
            · have := e3 (i - n - 8) (by omega)
              rw [show n + 4 + 4 + (i - n - 8) = i by omega] at this
              rw [b5 i (by omega), b4 i (by omega), this, if_neg (by omega), if_neg (by omega), if_pos (by omega), show (i - n) % 4 = i - n - 8 by omega]
            · by_cases h16 : i < n + 16
              · have := e4 (i - n - 12) (by omega)
                rw [show n + 4 + 4 + 4 + (i - n - 12) = i by omega] at this
                rw [b5 i (by omega), this, if_neg (by omega), if_neg (by omega), if_neg (by omega), if_pos (by omega), show (i - n) % 4 = i - n - 12 by omega]
              · have := e5 (i - n - 16) (by omega)
                rw [show n + 4 + 4 + 4 + 4 + (i - n - 16) = i by omega] at this
                rw [this, if_neg (by omega), if_neg (by omega), if_neg (by omega), if_neg (by omega), show (i - n) % 4 = i - n - 16 by omega]
    · simp only
      by_cases h0 : i < n
      · rw [if_pos h0, hG1 i h0]; exact hm i h0
      · rw [if_neg h0]
        have := hG2 (i - n) (by omega)
        rw [show n + (i - n) = i by omega] at this
        exact this
  · refine ⟨(J (-1), cb, J n), (J (-1), J 0, J n, mb), ?_, ?_, rfl, rfl, n, B, R'⟩
    · clear R' hB hc hm
      simp (disch := omega) only [sp_feed, J_lit, J_add, J_sub, J_mul, J_neg, J_nat, J_inb, J_div, ↓reduceIte, Int.toNat_natCast, Option.bind_some, J_le_t, J_le_f, J_lt_t, J_lt_f, J_eq_t, J_eq_f, L_lit, L_add, L_sub, L_mul, L_div, JL, LJ, Int.reduceToNat, Int.toNat_zero, Int.toNat_one, xb, xm, within_t, within_f, nb_t, nb_f, ni_t, ni_f, in_t, in_f, less_, bad_0, bad_1, not_true_eq_false, not_false_eq_true, L_lt_t, L_lt_f, L_eq_t, L_eq_f, lg_gt, lg_eq, lg_lt]
    · clear R' hB hc hm
      simp (disch := omega) only [sp_M_feed, J_lit, J_add, J_sub, J_mul, J_neg, J_nat, J_inb, J_div, ↓reduceIte, Int.toNat_natCast, Option.bind_some, J_le_t, J_le_f, J_lt_t, J_lt_f, J_eq_t, J_eq_f, L_lit, L_add, L_sub, L_mul, L_div, JL, LJ, Int.reduceToNat, Int.toNat_zero, Int.toNat_one, xb, xm, within_t, within_f, nb_t, nb_f, ni_t, ni_f, in_t, in_f, less_, bad_0, bad_1, not_true_eq_false, not_false_eq_true, L_lt_t, L_lt_f, L_eq_t, L_eq_f, lg_gt, lg_eq, lg_lt]
