set_option maxHeartbeats 2000000 in
theorem start_eq (K : Nat) (hK : 2000 ≤ K) {cb mb : Nat → Int32} {N : Nat} {B : Nat → Nat} (h : TX cb mb N B) {lo hi : Nat} (hlo : lo ≤ 500) (hhi : hi ≤ 500) {a : Nat} (ha : a ≤ 400) {x y s z w : Int32} {st fp : Int32} (hx : sp_Tape_readNumber K (J lo) (J hi) cb (J N) (J a) st (J 0) fp = some (x, y, s, z, w)) : s = J (bl B N a : Nat) := by
  have e1 := p_readNumber K hK h hlo hhi (a := a) (by omega) st fp
  rw [hx] at e1
  injection e1 with e1
  injection e1 with e1 e2
  injection e2 with e2 e3
  injection e3 with e3 e4
set_option maxHeartbeats 2000000 in
theorem se_0 (K : Nat) (hK : 2000 ≤ K) {cb : Nat → Int32} {N a w st fk fp : Int32} {kd : Int} {n : Nat} (hn : n ≤ 20) (eW : sp_Tape_readWord K cb N a st fk = some (w, a)) (eC : sp_Story_eventOfWord K cb N w a = some (J kd)) (k1 k2 k3 k4 : Nat → Int32) (hkd : -1 ≤ kd ∧ kd ≤ 4) : ∃ k, sp_Story_readEvent K k1 k2 k3 k4 (J n) cb N a st fk fp = f_Story_readEvent K cb N (k + 3) 1 (J kd, if n < 20 then J 0 else J 1, if kd = -1 then J 1 else J 0, J 0, J 0, J 0, k1, k2, k3, k4, J n, w, a, fk, fp) := by
  obtain ⟨k, rfl⟩ : ∃ k, K = k + 4 := ⟨K - 4, by omega⟩
  refine ⟨k, ?_⟩
  by_cases h1 : kd = -1
  · subst h1
    by_cases h2 : n < 20
    · rw [if_pos h2, if_pos rfl]
      simp (disch := omega) only [sp_Story_readEvent, eW, eC, J_lit, J_add, J_sub, J_mul, J_neg, J_nat, J_inb, J_div, ↓reduceIte, Int.toNat_natCast, Option.bind_some, J_le_t, J_le_f, J_lt_t, J_lt_f, J_eq_t, J_eq_f, L_lit, L_add, L_sub, L_mul, L_div, JL, LJ, Int.reduceToNat, Int.toNat_zero, Int.toNat_one, xb, xm, within_t, within_f, nb_t, nb_f, ni_t, ni_f, in_t, in_f, less_, bad_0, bad_1, not_true_eq_false, not_false_eq_true, L_lt_t, L_lt_f, L_eq_t, L_eq_f, lg_gt, lg_eq, lg_lt]
      rw [f_Story_readEvent]
      simp (disch := omega) only [J_lit, J_add, J_sub, J_mul, J_neg, J_nat, J_inb, J_div, ↓reduceIte, Int.toNat_natCast, Option.bind_some, J_le_t, J_le_f, J_lt_t, J_lt_f, J_eq_t, J_eq_f, L_lit, L_add, L_sub, L_mul, L_div, JL, LJ, Int.reduceToNat, Int.toNat_zero, Int.toNat_one, xb, xm, within_t, within_f, nb_t, nb_f, ni_t, ni_f, in_t, in_f, less_, bad_0, bad_1, not_true_eq_false, not_false_eq_true, L_lt_t, L_lt_f, L_eq_t, L_eq_f, lg_gt, lg_eq, lg_lt]
    · rw [if_neg h2, if_pos rfl]
      simp (disch := omega) only [sp_Story_readEvent, eW, eC, J_lit, J_add, J_sub, J_mul, J_neg, J_nat, J_inb, J_div, ↓reduceIte, Int.toNat_natCast, Option.bind_some, J_le_t, J_le_f, J_lt_t, J_lt_f, J_eq_t, J_eq_f, L_lit, L_add, L_sub, L_mul, L_div, JL, LJ, Int.reduceToNat, Int.toNat_zero, Int.toNat_one, xb, xm, within_t, within_f, nb_t, nb_f, ni_t, ni_f, in_t, in_f, less_, bad_0, bad_1, not_true_eq_false, not_false_eq_true, L_lt_t, L_lt_f, L_eq_t, L_eq_f, lg_gt, lg_eq, lg_lt]
      rw [f_Story_readEvent]
      simp (disch := omega) only [J_lit, J_add, J_sub, J_mul, J_neg, J_nat, J_inb, J_div, ↓reduceIte, Int.toNat_natCast, Option.bind_some, J_le_t, J_le_f, J_lt_t, J_lt_f, J_eq_t, J_eq_f, L_lit, L_add, L_sub, L_mul, L_div, JL, LJ, Int.reduceToNat, Int.toNat_zero, Int.toNat_one, xb, xm, within_t, within_f, nb_t, nb_f, ni_t, ni_f, in_t, in_f, less_, bad_0, bad_1, not_true_eq_false, not_false_eq_true, L_lt_t, L_lt_f, L_eq_t, L_eq_f, lg_gt, lg_eq, lg_lt]
  · rw [if_neg h1]
    by_cases h2 : n < 20
    · rw [if_pos h2]
      simp (disch := omega) only [sp_Story_readEvent, eW, eC, J_lit, J_add, J_sub, J_mul, J_neg, J_nat, J_inb, J_div, ↓reduceIte, Int.toNat_natCast, Option.bind_some, J_le_t, J_le_f, J_lt_t, J_lt_f, J_eq_t, J_eq_f, L_lit, L_add, L_sub, L_mul, L_div, JL, LJ, Int.reduceToNat, Int.toNat_zero, Int.toNat_one, xb, xm, within_t, within_f, nb_t, nb_f, ni_t, ni_f, in_t, in_f, less_, bad_0, bad_1, not_true_eq_false, not_false_eq_true, L_lt_t, L_lt_f, L_eq_t, L_eq_f, lg_gt, lg_eq, lg_lt]
      rw [f_Story_readEvent]
      simp (disch := omega) only [J_lit, J_add, J_sub, J_mul, J_neg, J_nat, J_inb, J_div, ↓reduceIte, Int.toNat_natCast, Option.bind_some, J_le_t, J_le_f, J_lt_t, J_lt_f, J_eq_t, J_eq_f, L_lit, L_add, L_sub, L_mul, L_div, JL, LJ, Int.reduceToNat, Int.toNat_zero, Int.toNat_one, xb, xm, within_t, within_f, nb_t, nb_f, ni_t, ni_f, in_t, in_f, less_, bad_0, bad_1, not_true_eq_false, not_false_eq_true, L_lt_t, L_lt_f, L_eq_t, L_eq_f, lg_gt, lg_eq, lg_lt]
    · rw [if_neg h2]
      simp (disch := omega) only [sp_Story_readEvent, eW, eC, J_lit, J_add, J_sub, J_mul, J_neg, J_nat, J_inb, J_div, ↓reduceIte, Int.toNat_natCast, Option.bind_some, J_le_t, J_le_f, J_lt_t, J_lt_f, J_eq_t, J_eq_f, L_lit, L_add, L_sub, L_mul, L_div, JL, LJ, Int.reduceToNat, Int.toNat_zero, Int.toNat_one, xb, xm, within_t, within_f, nb_t, nb_f, ni_t, ni_f, in_t, in_f, less_, bad_0, bad_1, not_true_eq_false, not_false_eq_true, L_lt_t, L_lt_f, L_eq_t, L_eq_f, lg_gt, lg_eq, lg_lt]
      rw [f_Story_readEvent]
      simp (disch := omega) only [J_lit, J_add, J_sub, J_mul, J_neg, J_nat, J_inb, J_div, ↓reduceIte, Int.toNat_natCast, Option.bind_some, J_le_t, J_le_f, J_lt_t, J_lt_f, J_eq_t, J_eq_f, L_lit, L_add, L_sub, L_mul, L_div, JL, LJ, Int.reduceToNat, Int.toNat_zero, Int.toNat_one, xb, xm, within_t, within_f, nb_t, nb_f, ni_t, ni_f, in_t, in_f, less_, bad_0, bad_1, not_true_eq_false, not_false_eq_true, L_lt_t, L_lt_f, L_eq_t, L_eq_f, lg_gt, lg_eq, lg_lt]
set_option maxHeartbeats 2000000 in
theorem se_plain (K : Nat) {cb : Nat → Int32} {N a w fk fp y z : Int32} {kd : Int} (hkd : kd = -1 ∨ kd = 1 ∨ kd = 3) {fk1 fp1 v1 a1 s1 fk2 fp2 : Int32} (eF : sp_Tape_refuseWord K z y a fk fp = some (fk1, fp1)) (n1 : sp_Tape_readNumber K 0 9 cb N w a fk1 fp1 = some (v1, a1, s1, fk2, fp2)) (k1 k2 k3 k4 : Nat → Int32) (kn : Int32) (k : Nat) : f_Story_readEvent K cb N (k + 1) 1 (J kd, y, z, J 0, J 0, J 0, k1, k2, k3, k4, kn, w, a, fk, fp) = f_Story_readEvent K cb N k 2 (J kd, J 0, J 0, v1, J 0, J 0, k1, k2, k3, k4, kn, a1, s1, fk2, fp2) := by
  rw [f_Story_readEvent]
  rcases hkd with h | h | h <;> subst h <;> (simp only [eF, n1, Option.bind_some, show (J (-1) = (0 : Int32)) = False from by decide, show (J (-1) = (2 : Int32)) = False from by decide, show (J (-1) = (4 : Int32)) = False from by decide, show (J 1 = (0 : Int32)) = False from by decide, show (J 1 = (2 : Int32)) = False from by decide, show (J 1 = (4 : Int32)) = False from by decide, show (J 3 = (0 : Int32)) = False from by decide, show (J 3 = (2 : Int32)) = False from by decide, show (J 3 = (4 : Int32)) = False from by decide, if_false]; rfl)
set_option maxHeartbeats 2000000 in
theorem se_wear (K : Nat) {cb : Nat → Int32} {N a w fk fp y z : Int32} {fk1 fp1 v1 a1 s1 fk2 fp2 v2 a2 s2 fk3 fp3 : Int32} (eF : sp_Tape_refuseWord K z y a fk fp = some (fk1, fp1)) (n1 : sp_Tape_readNumber K 0 9 cb N w a fk1 fp1 = some (v1, a1, s1, fk2, fp2)) (n2 : sp_Tape_readNumber K 0 7 cb N a1 s1 fk2 fp2 = some (v2, a2, s2, fk3, fp3)) (k1 k2 k3 k4 : Nat → Int32) (kn : Int32) (k : Nat) : f_Story_readEvent K cb N (k + 1) 1 (J 0, y, z, J 0, J 0, J 0, k1, k2, k3, k4, kn, w, a, fk, fp) = f_Story_readEvent K cb N k 2 (J 0, J 0, J 0, v1, v2, J 0, k1, k2, k3, k4, kn, a2, s2, fk3, fp3) := by
  rw [f_Story_readEvent]
  simp only [eF, n1, n2, Option.bind_some, show (J 0 = (0 : Int32)) = True from by decide, if_true]
  rfl
set_option maxHeartbeats 2000000 in
theorem se_shake (K : Nat) {cb : Nat → Int32} {N a w fk fp y z : Int32} {fk1 fp1 v1 a1 s1 fk2 fp2 v2 a2 s2 fk3 fp3 : Int32} (eF : sp_Tape_refuseWord K z y a fk fp = some (fk1, fp1)) (n1 : sp_Tape_readNumber K 0 9 cb N w a fk1 fp1 = some (v1, a1, s1, fk2, fp2)) (n2 : sp_Tape_readNumber K 0 16 cb N a1 s1 fk2 fp2 = some (v2, a2, s2, fk3, fp3)) (k1 k2 k3 k4 : Nat → Int32) (kn : Int32) (k : Nat) : f_Story_readEvent K cb N (k + 1) 1 (J 4, y, z, J 0, J 0, J 0, k1, k2, k3, k4, kn, w, a, fk, fp) = f_Story_readEvent K cb N k 2 (J 4, J 0, J 0, v1, v2, J 0, k1, k2, k3, k4, kn, a2, s2, fk3, fp3) := by
  rw [f_Story_readEvent]
  simp only [eF, n1, n2, Option.bind_some, show (J 4 = (0 : Int32)) = False from by decide, show (J 4 = (2 : Int32)) = False from by decide, show (J 4 = (4 : Int32)) = True from by decide, if_true, if_false]
  rfl
set_option maxHeartbeats 2000000 in
theorem se_touch (K : Nat) {cb : Nat → Int32} {N a w fk fp y z : Int32} {fk1 fp1 v1 a1 s1 fk2 fp2 v2 a2 s2 fk3 fp3 fk4 fp4 : Int32} (eF : sp_Tape_refuseWord K z y a fk fp = some (fk1, fp1)) (n1 : sp_Tape_readNumber K 0 9 cb N w a fk1 fp1 = some (v1, a1, s1, fk2, fp2)) (n2 : sp_Tape_readNumber K 0 9 cb N a1 s1 fk2 fp2 = some (v2, a2, s2, fk3, fp3)) (hr : sp_Tape_refuseSame K v2 v1 s2 fk3 fp3 = some (fk4, fp4)) (k1 k2 k3 k4 : Nat → Int32) (kn : Int32) (k : Nat) : f_Story_readEvent K cb N (k + 1) 1 (J 2, y, z, J 0, J 0, J 0, k1, k2, k3, k4, kn, w, a, fk, fp) = f_Story_readEvent K cb N k 2 (J 2, J 0, J 0, v1, v2, J 0, k1, k2, k3, k4, kn, a2, s2, fk4, fp4) := by
  rw [f_Story_readEvent]
  simp only [eF, n1, n2, hr, Option.bind_some, show (J 2 = (0 : Int32)) = False from by decide, show (J 2 = (2 : Int32)) = True from by decide, if_true, if_false]
  rfl
def ne1 (ne : Nat → Nat → Int32) (n : Nat) (x v : Int32) : Nat → Nat → Int32 := va_up (va_up ne n (upd (ne n) 0 x)) n (upd ((va_up ne n (upd (ne n) 0 x)) n) 1 v)
set_option maxHeartbeats 2000000 in
theorem ne1_0 (ne : Nat → Nat → Int32) (n : Nat) (x v : Int32) : ne1 ne n x v n 0 = x := by
  unfold ne1; rw [va_up_eq, va_up_eq]; unfold upd; rw [if_neg (by omega), if_pos rfl]
set_option maxHeartbeats 2000000 in
theorem ne1_1 (ne : Nat → Nat → Int32) (n : Nat) (x v : Int32) : ne1 ne n x v n 1 = v := by
  unfold ne1; rw [va_up_eq]; unfold upd; rw [if_pos rfl]
set_option maxHeartbeats 2000000 in
theorem ne1_ne (ne : Nat → Nat → Int32) {n i : Nat} (x v : Int32) (h : i ≠ n) : ne1 ne n x v i = ne i := by
  unfold ne1; rw [pu_up_ne _ _ h, pu_up_ne _ _ h]
set_option maxHeartbeats 2000000 in
theorem n0 : (0 : Int32).toNatClampNeg = 0 := by decide
set_option maxHeartbeats 2000000 in
theorem n1_ : (1 : Int32).toNatClampNeg = 1 := by decide
set_option maxHeartbeats 2000000 in
theorem me_0 (K : Nat) (hK : 2000 ≤ K) {mb : Nat → Int32} {N a w fp : Int32} {kd : Int} (hkd : 0 ≤ kd ∧ kd ≤ 4) {n : Nat} (hn : n < 20) (eH : sp_M_eventHere K N a mb = some (J kd, a)) (eW : sp_M_skipWord K N a mb = some w) (ne : Nat → Nat → Int32) {v1 b1 k1 q1 : Int32} (m1 : sp_M_number K 0 9 (-1) N w (J 0) fp mb = some (v1, b1, k1, q1)) (y b k q : Int32) (hh : (kd = 0 → sp_M_number K 0 7 (-1) N b1 k1 q1 mb = some (y, b, k, q)) ∧ (kd = 2 → sp_M_number K 0 9 v1 N b1 k1 q1 mb = some (y, b, k, q)) ∧ (kd = 4 → sp_M_number K 0 16 (-1) N b1 k1 q1 mb = some (y, b, k, q)) ∧ ((kd = 1 ∨ kd = 3) → y = J 0 ∧ b = b1 ∧ k = k1 ∧ q = q1)) : ∃ m', sp_M_eventAt K (J n) N a (J 0) fp mb ne = f_M_eventAt K N mb (m' + 5) 1 (J n, J 0, n, y, J 2, n, b, k, q, ne1 ne n (J kd) v1) := by
  obtain ⟨z, rfl⟩ : ∃ z, K = z + 6 := ⟨K - 6, by omega⟩
  refine ⟨z, ?_⟩
  have hi21 : inb (J n) 21 := inbJ (v := n) (by omega) (by omega)
  have hnn : (J n).toNatClampNeg = n := natJ (by omega)
  have e1 : sp_M_eventAt (z + 6) (J n) N a (J 0) fp mb ne = f_M_eventAt (z + 6) N mb (z + 6) 0 (J n, J kd, 0, J 0, J 0, 0, a, J 0, fp, ne) := by
    clear hh m1
    simp (disch := omega) only [sp_M_eventAt, eH, J_lit, J_add, J_sub, J_mul, J_neg, J_nat, J_inb, J_div, ↓reduceIte, Int.toNat_natCast, Option.bind_some, J_le_t, J_le_f, J_lt_t, J_lt_f, J_eq_t, J_eq_f, L_lit, L_add, L_sub, L_mul, L_div, JL, LJ, Int.reduceToNat, Int.toNat_zero, Int.toNat_one, xb, xm, within_t, within_f, nb_t, nb_f, ni_t, ni_f, in_t, in_f, less_, bad_0, bad_1, not_true_eq_false, not_false_eq_true, L_lt_t, L_lt_f, L_eq_t, L_eq_f, lg_gt, lg_eq, lg_lt]
  rw [e1]
  have h1t := ne1_1 ne n (J kd) v1
  unfold ne1 at h1t
  have : kd = 0 ∨ kd = 1 ∨ kd = 2 ∨ kd = 3 ∨ kd = 4 := by omega
  rcases this with h | h | h | h | h <;> subst h
  · have hh' := hh.1 rfl
    rw [f_M_eventAt]
    simp only [show (J 0 = (0 : Int32)) = True from by decide, if_true, eW, Option.bind_some, hi21, m1, hnn, hh', n0, n1_]
    rw [if_pos hi21, if_pos (by decide : inb 0 4), if_pos (by decide : inb 1 4)]
    rfl
  · obtain ⟨g1, g2, g3, g4⟩ := hh.2.2.2 (Or.inl rfl)
    subst g1 g2 g3 g4
    rw [f_M_eventAt]
    simp only [show (J 0 = (0 : Int32)) = True from by decide, show (J 1 = (0 : Int32)) = False from by decide, show (J 1 = (2 : Int32)) = False from by decide, show (J 1 = (4 : Int32)) = False from by decide, if_true, if_false, eW, Option.bind_some, hi21, m1, hnn, n0, n1_]
    rw [if_pos hi21, if_pos (by decide : inb 0 4), if_pos (by decide : inb 1 4)]
    rfl
  · have hh' := hh.2.1 rfl
    rw [f_M_eventAt]
    simp only [show (J 0 = (0 : Int32)) = True from by decide, show (J 2 = (0 : Int32)) = False from by decide, show (J 2 = (2 : Int32)) = True from by decide, if_true, if_false, eW, Option.bind_some, hi21, m1, hnn, n0, n1_, h1t, hh']
    rw [if_pos hi21, if_pos (by decide : inb 0 4), if_pos (by decide : inb 1 4), if_pos (by decide : inb 1 4)]
    rfl
  · obtain ⟨g1, g2, g3, g4⟩ := hh.2.2.2 (Or.inr rfl)
    subst g1 g2 g3 g4
    rw [f_M_eventAt]
    simp only [show (J 0 = (0 : Int32)) = True from by decide, show (J 3 = (0 : Int32)) = False from by decide, show (J 3 = (2 : Int32)) = False from by decide, show (J 3 = (4 : Int32)) = False from by decide, if_true, if_false, eW, Option.bind_some, hi21, m1, hnn, n0, n1_]
    rw [if_pos hi21, if_pos (by decide : inb 0 4), if_pos (by decide : inb 1 4)]
    rfl
  · have hh' := hh.2.2.1 rfl
    rw [f_M_eventAt]
    simp only [show (J 0 = (0 : Int32)) = True from by decide, show (J 4 = (0 : Int32)) = False from by decide, show (J 4 = (2 : Int32)) = False from by decide, show (J 4 = (4 : Int32)) = True from by decide, if_true, if_false, eW, Option.bind_some, hi21, m1, hnn, n0, n1_, hh']
    rw [if_pos hi21, if_pos (by decide : inb 0 4), if_pos (by decide : inb 1 4)]
    rfl
set_option maxHeartbeats 2000000 in
theorem me_stop (K : Nat) (N a k q x1 x2 : Int32) (mb : Nat → Int32) (m : Nat) (ne : Nat → Nat → Int32) (hk : ¬ k = 0) : f_M_eventAt K N mb (m + 1) 0 (x1, x2, 0, 0, 0, 0, a, k, q, ne) = some (a, k, q, ne) := by
  rw [f_M_eventAt, if_neg hk]
set_option maxHeartbeats 2000000 in
theorem me_bad (K : Nat) (hK : 2000 ≤ K) {mb : Nat → Int32} {N a fp : Int32} (x1 : Int32) (eH : sp_M_eventHere K N a mb = some (J (-1), a)) (ne : Nat → Nat → Int32) : sp_M_eventAt K x1 N a (J 0) fp mb ne = some (a, J (1 : Nat), a, ne) := by
  obtain ⟨k, rfl⟩ : ∃ k, K = k + 1 := ⟨K - 1, by omega⟩
  simp only [sp_M_eventAt, eH, Option.bind_some, show (J (-1) = (-1 : Int32)) = True from by decide, if_true, sp_M_wrong, show (J 0 = (0 : Int32)) = True from by decide]
  exact me_stop (k + 1) N a 1 a x1 _ mb k ne (by decide)
set_option maxHeartbeats 2000000 in
theorem me_full (K : Nat) (hK : 2000 ≤ K) {mb : Nat → Int32} {N a fp : Int32} {kd : Int} (hkd : 0 ≤ kd ∧ kd ≤ 4) (eH : sp_M_eventHere K N a mb = some (J kd, a)) (ne : Nat → Nat → Int32) : sp_M_eventAt K (J 20) N a (J 0) fp mb ne = some (a, J (3 : Nat), a, ne) := by
  obtain ⟨k, rfl⟩ : ∃ k, K = k + 1 := ⟨K - 1, by omega⟩
  have h1 : (J kd = (-1 : Int32)) = False := J_eq_f (b := -1) (by omega)
  simp only [sp_M_eventAt, eH, Option.bind_some, h1, if_false, show (J 20 = (20 : Int32)) = True from by decide, if_true, sp_M_wrong, show (J 0 = (0 : Int32)) = True from by decide]
  exact me_stop (k + 1) N a 3 a (J 20) _ mb k ne (by decide)
set_option maxHeartbeats 2000000 in
theorem rwe_ok (K : Nat) {n : Nat} (hc : n < 20) {kd : Int} (hk : kd ≠ -1) (a fp : Int32) : sp_Tape_refuseWord K (if kd = -1 then J 1 else J 0) (if n < 20 then J 0 else J 1) a (J 0) fp = some (J 0, fp) := by
  rw [if_neg hk, if_pos hc]
  simp (disch := omega) only [sp_Tape_refuseWord, J_lit, J_add, J_sub, J_mul, J_neg, J_nat, J_inb, J_div, ↓reduceIte, Int.toNat_natCast, Option.bind_some, J_le_t, J_le_f, J_lt_t, J_lt_f, J_eq_t, J_eq_f, L_lit, L_add, L_sub, L_mul, L_div, JL, LJ, Int.reduceToNat, Int.toNat_zero, Int.toNat_one, xb, xm, within_t, within_f, nb_t, nb_f, ni_t, ni_f, in_t, in_f, less_, bad_0, bad_1, not_true_eq_false, not_false_eq_true, L_lt_t, L_lt_f, L_eq_t, L_eq_f, lg_gt, lg_eq, lg_lt]
set_option maxHeartbeats 2000000 in
theorem rwe_full (K : Nat) {n : Nat} (hc : ¬ n < 20) {kd : Int} (hk : kd ≠ -1) (a fp : Int32) : sp_Tape_refuseWord K (if kd = -1 then J 1 else J 0) (if n < 20 then J 0 else J 1) a (J 0) fp = some (J (3 : Nat), a) := by
  rw [if_neg hk, if_neg hc]
  simp (disch := omega) only [sp_Tape_refuseWord, sp_Tape_fail, sp_Tape_failed, J_lit, J_add, J_sub, J_mul, J_neg, J_nat, J_inb, J_div, ↓reduceIte, Int.toNat_natCast, Option.bind_some, J_le_t, J_le_f, J_lt_t, J_lt_f, J_eq_t, J_eq_f, L_lit, L_add, L_sub, L_mul, L_div, JL, LJ, Int.reduceToNat, Int.toNat_zero, Int.toNat_one, xb, xm, within_t, within_f, nb_t, nb_f, ni_t, ni_f, in_t, in_f, less_, bad_0, bad_1, not_true_eq_false, not_false_eq_true, L_lt_t, L_lt_f, L_eq_t, L_eq_f, lg_gt, lg_eq, lg_lt]
  rfl
set_option maxHeartbeats 2000000 in
theorem rwe_bad (K : Nat) (n : Nat) (a fp : Int32) : sp_Tape_refuseWord K (if (-1 : Int) = -1 then J 1 else J 0) (if n < 20 then J 0 else J 1) a (J 0) fp = some (J (1 : Nat), a) := by
  rw [if_pos rfl]
  simp (disch := omega) only [sp_Tape_refuseWord, sp_Tape_fail, sp_Tape_failed, J_lit, J_add, J_sub, J_mul, J_neg, J_nat, J_inb, J_div, ↓reduceIte, Int.toNat_natCast, Option.bind_some, J_le_t, J_le_f, J_lt_t, J_lt_f, J_eq_t, J_eq_f, L_lit, L_add, L_sub, L_mul, L_div, JL, LJ, Int.reduceToNat, Int.toNat_zero, Int.toNat_one, xb, xm, within_t, within_f, nb_t, nb_f, ni_t, ni_f, in_t, in_f, less_, bad_0, bad_1, not_true_eq_false, not_false_eq_true, L_lt_t, L_lt_f, L_eq_t, L_eq_f, lg_gt, lg_eq, lg_lt]
  rfl
set_option maxHeartbeats 2000000 in
theorem head2 (K : Nat) (hK : 2000 ≤ K) {cb mb : Nat → Int32} {N : Nat} {B : Nat → Nat} (h : TX cb mb N B) {a : Nat} (ha : a ≤ 400) (hb : bl B N a = a) {n : Nat} (k1 k2 k3 k4 : Nat → Int32) (ne : Nat → Nat → Int32) (st fp : Int32) (hn : n < 20) {kd : Nat} (hkd : kd ≤ 4) (hk : kS B N a = kd) : (∃ (one two a' m m' : Nat) (s' : Int32), (kd ≤ 4 ∧ one < 10 ∧ (kd = 0 → two < 8) ∧ (kd = 2 → two < 10 ∧ two ≠ one) ∧ two ≤ 16) ∧ a ≤ a' ∧ a' ≤ 400 ∧ sp_Story_readEvent K k1 k2 k3 k4 (J n) cb (J N) (J a) st (J 0) fp = f_Story_readEvent K cb (J N) (m + 2) 2 (J kd, J 0, J 0, J one, J two, J 0, k1, k2, k3, k4, J n, J a', s', J 0, fp) ∧ sp_M_eventAt K (J n) (J N) (J a) (J 0) fp mb ne = f_M_eventAt K (J N) mb (m' + 5) 1 (J n, J 0, n, J two, J 2, n, J a', J 0, fp, ne1 ne n (J kd) (J one))) ∨ (∃ (k p a' s' m m' : Nat) (v1 v2 y x : Int32), (1 ≤ k ∧ k ≤ 3) ∧ (a' ≤ 400 ∧ s' ≤ 400) ∧ sp_Story_readEvent K k1 k2 k3 k4 (J n) cb (J N) (J a) st (J 0) fp = f_Story_readEvent K cb (J N) (m + 2) 2 (J kd, J 0, J 0, v1, v2, J 0, k1, k2, k3, k4, J n, J a', J s', J k, J p) ∧ sp_M_eventAt K (J n) (J N) (J a) (J 0) fp mb ne = f_M_eventAt K (J N) mb (m' + 5) 1 (J n, J 0, n, y, J 2, n, J a', J k, J p, ne1 ne n (J kd) x)) := by
  have hN := h.1
  have rw1 := en_rng 97 122 B N a
  have eW := rc_word K hK h (a := a) (by omega) hb st
  have eC := p_eventOfWord K hK h (s := a) (by omega)
  have eH := p_eventHere K hK h (a := a) (by omega) hb
  have eM := p_M_skipWord K hK h (a := a) (by omega)
  rw [hk] at eC eH
  have hw : we B N a ≤ 400 := by unfold we; omega
  have haw : a ≤ we B N a := by unfold we; omega
  change sp_M_skipWord K (J N) (J a) mb = some (J (we B N a : Nat)) at eM
  generalize we B N a = w at *
  obtain ⟨k, e0⟩ := se_0 K hK (fp := fp) (n := n) (by omega) eW eC k1 k2 k3 k4 (by omega)
  have eF := rwe_ok K hn (kd := (kd : Int)) (by omega) (J a) fp
  have rb := bl_rng B N w
  rcases num2 K hK h (lo := 0) (hi := 9) (by omega) (by omega) (a := w) (by omega) with ⟨v1, e1, s1, lo1, hi1, le1, lf1, c1, m1⟩ | ⟨kk, p, e1, s1, hkk, lf1, c1, m1⟩
  · have hs1 := start_eq K hK h (lo := 0) (hi := 9) (by omega) (by omega) (by omega) (c1 (J a) fp)
    have rb2 := bl_rng B N e1
    have : kd = 0 ∨ kd = 1 ∨ kd = 2 ∨ kd = 3 ∨ kd = 4 := by omega
    rcases this with hk0 | hk0 | hk0 | hk0 | hk0 <;> subst hk0
    · rcases num2 K hK h (lo := 0) (hi := 7) (by omega) (by omega) (a := e1) (by omega) with ⟨v2, e2, s2, lo2, hi2, le2, lf2, c2, m2⟩ | ⟨kk, p, e2, s2, hkk, lf2, c2, m2⟩
      · obtain ⟨m', f0⟩ := me_0 K hK (kd := 0) (by omega) hn eH eM ne (m1 fp) (J v2) (J e2) (J 0) fp ⟨fun _ => m2 fp, fun e => by omega, fun e => by omega, fun e => by omega⟩
        exact Or.inl ⟨v1, v2, e2, k, m', J s2, by omega, by omega, lf2, e0.trans (se_wear K eF (c1 (J a) fp) (c2 (J s1) fp) k1 k2 k3 k4 (J n) (k + 2)), f0⟩
      · have hs2 := start_eq K hK h (lo := 0) (hi := 7) (by omega) (by omega) (by omega) (c2 (J a) fp)
        obtain ⟨vv, mm⟩ := m2 fp
        obtain ⟨m', f0⟩ := me_0 K hK (kd := 0) (by omega) hn eH eM ne (m1 fp) vv (J e2) (J kk) (J p) ⟨fun _ => mm, fun e => by omega, fun e => by omega, fun e => by omega⟩
        have e9 := se_wear K eF (c1 (J a) fp) (c2 (J s1) fp) k1 k2 k3 k4 (J n) (k + 2)
        rw [hs2] at e9
        exact Or.inr ⟨kk, p, e2, bl B N e1, k, m', _, _, vv, _, hkk, by omega, e0.trans e9, f0⟩
    · obtain ⟨m', f0⟩ := me_0 K hK (kd := 1) (by omega) hn eH eM ne (m1 fp) (J 0) (J e1) (J 0) fp ⟨fun e => by omega, fun e => by omega, fun e => by omega, fun e => ⟨rfl, rfl, rfl, rfl⟩⟩
      exact Or.inl ⟨v1, 0, e1, k, m', J s1, by omega, by omega, lf1, e0.trans (se_plain K (Or.inr (Or.inl rfl)) eF (c1 (J a) fp) k1 k2 k3 k4 (J n) (k + 2)), f0⟩
    · rcases num3 K hK h (lo := 0) (hi := 9) (by omega) (by omega) (ne := v1) (by omega) (a := e1) (by omega) with ⟨v2, e2, s2, lo2, hi2, hne, le2, lf2, c2, m2⟩ | ⟨e2, s2, lo2, hi2, lf2, c2, m2⟩ | ⟨kk, p, e2, s2, hkk, lf2, c2, m2⟩
      · obtain ⟨m', f0⟩ := me_0 K hK (kd := 2) (by omega) hn eH eM ne (m1 fp) (J v2) (J e2) (J 0) fp ⟨fun e => by omega, fun _ => m2 fp, fun e => by omega, fun e => by omega⟩
        exact Or.inl ⟨v1, v2, e2, k, m', J s2, by omega, by omega, lf2, e0.trans (se_touch K eF (c1 (J a) fp) (c2 (J s1) fp) (same_ne K hne (by omega) (by omega) (J s2) (J 0) fp) k1 k2 k3 k4 (J n) (k + 2)), f0⟩
      · have hs2 := start_eq K hK h (lo := 0) (hi := 9) (by omega) (by omega) (by omega) (c2 (J a) fp)
        obtain ⟨vv, mm⟩ := m2 fp
        obtain ⟨m', f0⟩ := me_0 K hK (kd := 2) (by omega) hn eH eM ne (m1 fp) vv (J e2) (J 2) (J s2) ⟨fun e => by omega, fun _ => mm, fun e => by omega, fun e => by omega⟩
        have e9 := se_touch K eF (c1 (J a) fp) (c2 (J s1) fp) (same_eq K (J v1) (J s2) fp) k1 k2 k3 k4 (J n) (k + 2)
        rw [hs2] at e9 f0
        exact Or.inr ⟨2, bl B N e1, e2, bl B N e1, k, m', _, _, vv, _, by omega, by omega, e0.trans e9, f0⟩
      · have hs2 := start_eq K hK h (lo := 0) (hi := 9) (by omega) (by omega) (by omega) (c2 (J a) fp)
        obtain ⟨vv, mm⟩ := m2 fp
        obtain ⟨m', f0⟩ := me_0 K hK (kd := 2) (by omega) hn eH eM ne (m1 fp) vv (J e2) (J kk) (J p) ⟨fun e => by omega, fun _ => mm, fun e => by omega, fun e => by omega⟩
        have e9 := se_touch K eF (c1 (J a) fp) (c2 (J s1) fp) (same_f K (J (0 : Nat)) (J v1) (J s2) hkk (J p)) k1 k2 k3 k4 (J n) (k + 2)
        rw [hs2] at e9
        exact Or.inr ⟨kk, p, e2, bl B N e1, k, m', _, _, vv, _, hkk, by omega, e0.trans e9, f0⟩
    · obtain ⟨m', f0⟩ := me_0 K hK (kd := 3) (by omega) hn eH eM ne (m1 fp) (J 0) (J e1) (J 0) fp ⟨fun e => by omega, fun e => by omega, fun e => by omega, fun e => ⟨rfl, rfl, rfl, rfl⟩⟩
      exact Or.inl ⟨v1, 0, e1, k, m', J s1, by omega, by omega, lf1, e0.trans (se_plain K (Or.inr (Or.inr rfl)) eF (c1 (J a) fp) k1 k2 k3 k4 (J n) (k + 2)), f0⟩
    · rcases num2 K hK h (lo := 0) (hi := 16) (by omega) (by omega) (a := e1) (by omega) with ⟨v2, e2, s2, lo2, hi2, le2, lf2, c2, m2⟩ | ⟨kk, p, e2, s2, hkk, lf2, c2, m2⟩
      · obtain ⟨m', f0⟩ := me_0 K hK (kd := 4) (by omega) hn eH eM ne (m1 fp) (J v2) (J e2) (J 0) fp ⟨fun e => by omega, fun e => by omega, fun _ => m2 fp, fun e => by omega⟩
        exact Or.inl ⟨v1, v2, e2, k, m', J s2, by omega, by omega, lf2, e0.trans (se_shake K eF (c1 (J a) fp) (c2 (J s1) fp) k1 k2 k3 k4 (J n) (k + 2)), f0⟩
      · have hs2 := start_eq K hK h (lo := 0) (hi := 16) (by omega) (by omega) (by omega) (c2 (J a) fp)
        obtain ⟨vv, mm⟩ := m2 fp
        obtain ⟨m', f0⟩ := me_0 K hK (kd := 4) (by omega) hn eH eM ne (m1 fp) vv (J e2) (J kk) (J p) ⟨fun e => by omega, fun e => by omega, fun _ => mm, fun e => by omega⟩
        have e9 := se_shake K eF (c1 (J a) fp) (c2 (J s1) fp) k1 k2 k3 k4 (J n) (k + 2)
        rw [hs2] at e9
        exact Or.inr ⟨kk, p, e2, bl B N e1, k, m', _, _, vv, _, hkk, by omega, e0.trans e9, f0⟩
  · have hs1 := start_eq K hK h (lo := 0) (hi := 9) (by omega) (by omega) (by omega) (c1 (J a) fp)
    obtain ⟨vv, mm⟩ := m1 fp
    have n2 := fun lo hi => p_readNumber_f K lo hi cb (J N) (J e1) (J s1) hkk (J p)
    have f2 := fun lo hi ne => p_M_number_f K lo hi ne (J N) (J e1) hkk (J p) mb
    have : kd = 0 ∨ kd = 1 ∨ kd = 2 ∨ kd = 3 ∨ kd = 4 := by omega
    rcases this with hk0 | hk0 | hk0 | hk0 | hk0 <;> subst hk0
    · obtain ⟨m', f0⟩ := me_0 K hK (kd := 0) (by omega) hn eH eM ne mm (J 0) (J e1) (J kk) (J p) ⟨fun _ => f2 _ _ _, fun e => by omega, fun e => by omega, fun e => by omega⟩
      have e9 := se_wear K eF (c1 (J a) fp) (n2 0 7) k1 k2 k3 k4 (J n) (k + 2)
      rw [hs1] at e9
      exact Or.inr ⟨kk, p, e1, bl B N w, k, m', _, _, _, _, hkk, by omega, e0.trans e9, f0⟩
    · obtain ⟨m', f0⟩ := me_0 K hK (kd := 1) (by omega) hn eH eM ne mm (J 0) (J e1) (J kk) (J p) ⟨fun e => by omega, fun e => by omega, fun e => by omega, fun e => ⟨rfl, rfl, rfl, rfl⟩⟩
      have e9 := se_plain K (kd := 1) (Or.inr (Or.inl rfl)) eF (c1 (J a) fp) k1 k2 k3 k4 (J n) (k + 2)
      rw [hs1] at e9
      exact Or.inr ⟨kk, p, e1, bl B N w, k, m', _, _, _, _, hkk, by omega, e0.trans e9, f0⟩
    · obtain ⟨m', f0⟩ := me_0 K hK (kd := 2) (by omega) hn eH eM ne mm (J 0) (J e1) (J kk) (J p) ⟨fun e => by omega, fun _ => f2 _ _ _, fun e => by omega, fun e => by omega⟩
      have e9 := se_touch K eF (c1 (J a) fp) (n2 0 9) (same_f K 0 (J (0 : Nat)) (J s1) hkk (J p)) k1 k2 k3 k4 (J n) (k + 2)
      rw [hs1] at e9
      exact Or.inr ⟨kk, p, e1, bl B N w, k, m', _, _, _, _, hkk, by omega, e0.trans e9, f0⟩
    · obtain ⟨m', f0⟩ := me_0 K hK (kd := 3) (by omega) hn eH eM ne mm (J 0) (J e1) (J kk) (J p) ⟨fun e => by omega, fun e => by omega, fun e => by omega, fun e => ⟨rfl, rfl, rfl, rfl⟩⟩
      have e9 := se_plain K (kd := 3) (Or.inr (Or.inr rfl)) eF (c1 (J a) fp) k1 k2 k3 k4 (J n) (k + 2)
      rw [hs1] at e9
      exact Or.inr ⟨kk, p, e1, bl B N w, k, m', _, _, _, _, hkk, by omega, e0.trans e9, f0⟩
    · obtain ⟨m', f0⟩ := me_0 K hK (kd := 4) (by omega) hn eH eM ne mm (J 0) (J e1) (J kk) (J p) ⟨fun e => by omega, fun e => by omega, fun _ => f2 _ _ _, fun e => by omega⟩
      have e9 := se_shake K eF (c1 (J a) fp) (n2 0 16) k1 k2 k3 k4 (J n) (k + 2)
      rw [hs1] at e9
      exact Or.inr ⟨kk, p, e1, bl B N w, k, m', _, _, _, _, hkk, by omega, e0.trans e9, f0⟩
set_option maxHeartbeats 2000000 in
theorem event_step (K : Nat) (hK : 2000 ≤ K) {cb mb : Nat → Int32} {N : Nat} {B : Nat → Nat} (h : TX cb mb N B) {a : Nat} (ha : a ≤ 400) (hb : bl B N a = a) {n : Nat} (hn : n ≤ 20) {E : Nat → Nat → Nat} (hE : SOK n E) {k1 k2 k3 k4 : Nat → Int32} (hC : SC n E k1 k2 k3 k4 (J n)) {ne : Nat → Nat → Int32} (hM : ∀ i, i < n → ∀ c, c < 4 → ne i c = J (E i c)) (st fp : Int32) : (∃ (E' : Nat → Nat → Nat) (e : Nat) (st' : Int32) (u1 u2 u3 u4 : Nat → Int32) (ne' : Nat → Nat → Int32), sp_Story_readEvent K k1 k2 k3 k4 (J n) cb (J N) (J a) st (J 0) fp = some (u1, u2, u3, u4, J (n + 1 : Nat), J e, st', J 0, fp) ∧ sp_M_eventAt K (J n) (J N) (J a) (J 0) fp mb ne = some (J e, J 0, fp, ne') ∧ a < e ∧ e ≤ N ∧ n < 20 ∧ SOK (n + 1) E' ∧ SC (n + 1) E' u1 u2 u3 u4 (J (n + 1 : Nat)) ∧ ∀ i, i < n + 1 → ∀ c, c < 4 → ne' i c = J (E' i c)) ∨ (∃ (k p x y : Nat) (u1 u2 u3 u4 : Nat → Int32) (un st' : Int32) (ne' : Nat → Nat → Int32), (1 ≤ k ∧ k ≤ 3) ∧ (x ≤ 400 ∧ y ≤ 400) ∧ sp_Story_readEvent K k1 k2 k3 k4 (J n) cb (J N) (J a) st (J 0) fp = some (u1, u2, u3, u4, un, J x, st', J k, J p) ∧ sp_M_eventAt K (J n) (J N) (J a) (J 0) fp mb ne = some (J y, J k, J p, ne')) := by
  have hr := kS_rng B N a
  have hN := h.1
  have rw1 := en_rng 97 122 B N a
  have hw : we B N a ≤ 400 := by unfold we; omega
  by_cases hk1 : kS B N a = -1
  · right
    have eW := rc_word K hK h (a := a) (by omega) hb st
    have eC := p_eventOfWord K hK h (s := a) (by omega)
    have eH := p_eventHere K hK h (a := a) (by omega) hb
    rw [hk1] at eC eH
    obtain ⟨k, e0⟩ := se_0 K hK (fp := fp) hn eW eC k1 k2 k3 k4 (by omega)
    have hkk : 1 ≤ (1 : Nat) ∧ (1 : Nat) ≤ 3 := by omega
    have eF := rwe_bad K n (J a) fp
    have e9 := se_plain K (kd := -1) (Or.inl rfl) eF (p_readNumber_f K 0 9 cb (J N) (J (we B N a : Nat)) (J a) hkk (J a)) k1 k2 k3 k4 (J n) (k + 2)
    obtain ⟨st', e10⟩ := tail_f_c K hK h (a := we B N a) (s := a) hw ha hkk (J a) hn (J (-1)) 0 (J 0) k1 k2 k3 k4 k
    exact ⟨1, a, we B N a, a, k1, k2, k3, k4, J n, st', ne, hkk, by omega, e0.trans (e9.trans e10), me_bad K hK (J n) eH ne⟩
  · obtain ⟨kd, hkd⟩ : ∃ kd : Nat, kS B N a = kd := ⟨(kS B N a).toNat, by omega⟩
    by_cases hn20 : n < 20
    · rcases head2 K hK h ha hb k1 k2 k3 k4 ne st fp hn20 (kd := kd) (by omega) hkd with ⟨one, two, a', m, m', s', g1, g2, g3, g4, g5⟩ | ⟨k, p, a', s', m, m', v1, v2, y, x, hkk, g1, g2, g3⟩
      · rcases tail2 K hK h (a := a') g3 hn20 hE hC g1 (ne := ne1 ne n (J kd) (J one)) (fun i hi c hc => by rw [ne1_ne ne _ _ (by omega)]; exact hM i hi c hc) (ne1_0 _ _ _ _) (ne1_1 _ _ _ _) s' fp m m' with ⟨E', e, st', u1, u2, u3, u4, ne', t1, t2, t3, t4, t5, t6, t7⟩ | ⟨k, p, x, y, u1, u2, u3, u4, un, st', ne', hkk, hxy, t1, t2⟩
        · exact Or.inl ⟨E', e, st', u1, u2, u3, u4, ne', g4.trans t1, g5.trans t2, by omega, t4, hn20, t5, t6, t7⟩
        · exact Or.inr ⟨k, p, x, y, u1, u2, u3, u4, un, st', ne', hkk, hxy, g4.trans t1, g5.trans t2⟩
      · right
        obtain ⟨st', e10⟩ := tail_f_c K hK h (a := a') (s := s') g1.1 g1.2 hkk (J p) hn (J kd) v1 v2 k1 k2 k3 k4 m
        obtain ⟨ne', e11⟩ := tail_f_m K hK mb (J N) (J a') (J p) (J n) y hkk hn (ne1 ne n (J kd) x) m'
        exact ⟨k, p, a', a', k1, k2, k3, k4, J n, st', ne', hkk, ⟨g1.1, g1.1⟩, g2.trans e10, g3.trans e11⟩
    · right
      obtain rfl : n = 20 := by omega
      have eW := rc_word K hK h (a := a) (by omega) hb st
      have eC := p_eventOfWord K hK h (s := a) (by omega)
      have eH := p_eventHere K hK h (a := a) (by omega) hb
      obtain ⟨k, e0⟩ := se_0 K hK (fp := fp) (n := 20) (by omega) eW eC k1 k2 k3 k4 (by omega)
      have hkk : 1 ≤ (3 : Nat) ∧ (3 : Nat) ≤ 3 := by omega
      have eF := rwe_full K hn20 hk1 (J a) fp
      have rn := fun lo hi => p_readNumber_f K lo hi cb (J N) (J (we B N a : Nat)) (J a) hkk (J a)
      have eMf := me_full K hK (fp := fp) (kd := kS B N a) (by omega) eH ne
      have : kS B N a = 0 ∨ kS B N a = 1 ∨ kS B N a = 2 ∨ kS B N a = 3 ∨ kS B N a = 4 := by omega
      rcases this with hk | hk | hk | hk | hk <;> rw [hk] at e0 eF
      · have e9 := se_wear K eF (rn 0 9) (rn 0 7) k1 k2 k3 k4 (J (20 : Nat)) (k + 2)
        obtain ⟨st', e10⟩ := tail_f_c K hK h (a := we B N a) (s := a) hw ha hkk (J a) hn (J 0) 0 0 k1 k2 k3 k4 k
        exact ⟨3, a, we B N a, a, k1, k2, k3, k4, J (20 : Nat), st', ne, hkk, ⟨hw, ha⟩, e0.trans (e9.trans e10), eMf⟩
      · have e9 := se_plain K (kd := 1) (Or.inr (Or.inl rfl)) eF (rn 0 9) k1 k2 k3 k4 (J (20 : Nat)) (k + 2)
        obtain ⟨st', e10⟩ := tail_f_c K hK h (a := we B N a) (s := a) hw ha hkk (J a) hn (J 1) 0 (J 0) k1 k2 k3 k4 k
        exact ⟨3, a, we B N a, a, k1, k2, k3, k4, J (20 : Nat), st', ne, hkk, ⟨hw, ha⟩, e0.trans (e9.trans e10), eMf⟩
      · have e9 := se_touch K eF (rn 0 9) (rn 0 9) (same_f K 0 0 (J a) hkk (J a)) k1 k2 k3 k4 (J (20 : Nat)) (k + 2)
        obtain ⟨st', e10⟩ := tail_f_c K hK h (a := we B N a) (s := a) hw ha hkk (J a) hn (J 2) 0 0 k1 k2 k3 k4 k
        exact ⟨3, a, we B N a, a, k1, k2, k3, k4, J (20 : Nat), st', ne, hkk, ⟨hw, ha⟩, e0.trans (e9.trans e10), eMf⟩
      · have e9 := se_plain K (kd := 3) (Or.inr (Or.inr rfl)) eF (rn 0 9) k1 k2 k3 k4 (J (20 : Nat)) (k + 2)
        obtain ⟨st', e10⟩ := tail_f_c K hK h (a := we B N a) (s := a) hw ha hkk (J a) hn (J 3) 0 (J 0) k1 k2 k3 k4 k
        exact ⟨3, a, we B N a, a, k1, k2, k3, k4, J (20 : Nat), st', ne, hkk, ⟨hw, ha⟩, e0.trans (e9.trans e10), eMf⟩
      · have e9 := se_shake K eF (rn 0 9) (rn 0 16) k1 k2 k3 k4 (J (20 : Nat)) (k + 2)
        obtain ⟨st', e10⟩ := tail_f_c K hK h (a := we B N a) (s := a) hw ha hkk (J a) hn (J 4) 0 0 k1 k2 k3 k4 k
        exact ⟨3, a, we B N a, a, k1, k2, k3, k4, J (20 : Nat), st', ne, hkk, ⟨hw, ha⟩, e0.trans (e9.trans e10), eMf⟩
set_option maxHeartbeats 2000000 in
theorem story_loop (K : Nat) (hK : 2000 ≤ K) {cb mb : Nat → Int32} {N : Nat} {B : Nat → Nat} (h : TX cb mb N B) (thr tp pl sc : Int32) (many : Nat → Int32) (ev : Nat → Nat → Int32) (fp : Int32) : ∀ (r a i : Nat), N - a ≤ r → a ≤ N → i ≤ a → ∀ {n : Nat} (hn : n ≤ 20) {E : Nat → Nat → Nat} (hE : SOK n E) {k1 k2 k3 k4 : Nat → Int32} (hC : SC n E k1 k2 k3 k4 (J n)) {ne : Nat → Nat → Int32} (hM : ∀ i, i < n → ∀ c, c < 4 → ne i c = J (E i c)) (st : Int32) (m m' : Nat), r + 2 ≤ m → r + 2 ≤ m' → (∃ (n' : Nat) (E' : Nat → Nat → Nat) (e : Nat) (st' at' : Int32) (u1 u2 u3 u4 : Nat → Int32) (ne' : Nat → Nat → Int32) (q : Nat), f_Story_readFrom K cb (J N) m 0 (J i, k1, k2, k3, k4, J n, J a, st, J 0, fp) = some (u1, u2, u3, u4, J n', at', st', J 0, fp) ∧ m' ≤ q + r + 1 ∧ f_M_story K mb m' 1 (J 0, J 0, J n, J 0, J 0, thr, tp, J N, pl, J (bl B N a : Nat), J 0, fp, sc, many, ev, ne) = f_M_story K mb q 2 (J 0, J 0, J n', J 0, J 0, thr, tp, J N, pl, J e, J 0, fp, sc, many, ev, ne') ∧ n' ≤ 20 ∧ SOK n' E' ∧ SC n' E' u1 u2 u3 u4 (J n') ∧ ∀ i, i < n' → ∀ c, c < 4 → ne' i c = J (E' i c)) ∨ (∃ (k p : Nat) (u1 u2 u3 u4 : Nat → Int32) (un at' st' x y : Int32) (ne' : Nat → Nat → Int32) (q : Nat), (1 ≤ k ∧ k ≤ 3) ∧ f_Story_readFrom K cb (J N) m 0 (J i, k1, k2, k3, k4, J n, J a, st, J 0, fp) = some (u1, u2, u3, u4, un, at', st', J k, J p) ∧ m' ≤ q + r + 1 ∧ f_M_story K mb m' 1 (J 0, J 0, J n, J 0, J 0, thr, tp, J N, pl, J (bl B N a : Nat), J 0, fp, sc, many, ev, ne) = f_M_story K mb q 2 (J 0, J 0, x, J 0, J 0, thr, tp, J N, pl, y, J k, J p, sc, many, ev, ne')) := by
  intro r
  induction r with
  | zero =>
    intro a i hr haN hia n hn E hE k1 k2 k3 k4 hC ne hM st m m' hm hm'
    obtain ⟨m, rfl⟩ : ∃ q, m = q + 1 := ⟨m - 1, by omega⟩
    obtain ⟨m', rfl⟩ : ∃ q, m' = q + 1 := ⟨m' - 1, by omega⟩
    have r1 := bl_rng B N a
    have hb : bl B N a = N := by omega
    have hN := h.1
    have e1 := p_skipBlanks K hK h (a := a) (by omega)
    rw [hb] at e1
    left
    refine ⟨n, E, N, st, J N, k1, k2, k3, k4, ne, m', ?_, by omega, ?_, hn, hE, hC, hM⟩
    · clear h hE hC hM
      simp (disch := omega) only [f_Story_readFrom, sp_Tape_hasMore, sp_Tape_failed, e1, J_lit, J_add, J_sub, J_mul, J_neg, J_nat, J_inb, J_div, ↓reduceIte, Int.toNat_natCast, Option.bind_some, J_le_t, J_le_f, J_lt_t, J_lt_f, J_eq_t, J_eq_f, L_lit, L_add, L_sub, L_mul, L_div, JL, LJ, Int.reduceToNat, Int.toNat_zero, Int.toNat_one, xb, xm, within_t, within_f, nb_t, nb_f, ni_t, ni_f, in_t, in_f, less_, bad_0, bad_1, not_true_eq_false, not_false_eq_true, L_lt_t, L_lt_f, L_eq_t, L_eq_f, lg_gt, lg_eq, lg_lt]
    · rw [hb]
      clear h hE hC hM
      simp (disch := omega) only [f_M_story, J_lit, J_add, J_sub, J_mul, J_neg, J_nat, J_inb, J_div, ↓reduceIte, Int.toNat_natCast, Option.bind_some, J_le_t, J_le_f, J_lt_t, J_lt_f, J_eq_t, J_eq_f, L_lit, L_add, L_sub, L_mul, L_div, JL, LJ, Int.reduceToNat, Int.toNat_zero, Int.toNat_one, xb, xm, within_t, within_f, nb_t, nb_f, ni_t, ni_f, in_t, in_f, less_, bad_0, bad_1, not_true_eq_false, not_false_eq_true, L_lt_t, L_lt_f, L_eq_t, L_eq_f, lg_gt, lg_eq, lg_lt]
  | succ r ih =>
    intro a i hr haN hia n hn E hE k1 k2 k3 k4 hC ne hM st m m' hm hm'
    obtain ⟨m, rfl⟩ : ∃ q, m = q + 1 := ⟨m - 1, by omega⟩
    obtain ⟨m', rfl⟩ : ∃ q, m' = q + 1 := ⟨m' - 1, by omega⟩
    have r1 := bl_rng B N a
    have hN := h.1
    have e1 := p_skipBlanks K hK h (a := a) (by omega)
    have hbb := bl_bl B N a
    generalize bl B N a = b at *
    by_cases hend : N ≤ b
    · left
      refine ⟨n, E, b, st, J b, k1, k2, k3, k4, ne, m', ?_, by omega, ?_, hn, hE, hC, hM⟩
      · clear h hE hC hM ih
        simp (disch := omega) only [f_Story_readFrom, sp_Tape_hasMore, sp_Tape_failed, e1, J_lit, J_add, J_sub, J_mul, J_neg, J_nat, J_inb, J_div, ↓reduceIte, Int.toNat_natCast, Option.bind_some, J_le_t, J_le_f, J_lt_t, J_lt_f, J_eq_t, J_eq_f, L_lit, L_add, L_sub, L_mul, L_div, JL, LJ, Int.reduceToNat, Int.toNat_zero, Int.toNat_one, xb, xm, within_t, within_f, nb_t, nb_f, ni_t, ni_f, in_t, in_f, less_, bad_0, bad_1, not_true_eq_false, not_false_eq_true, L_lt_t, L_lt_f, L_eq_t, L_eq_f, lg_gt, lg_eq, lg_lt]
      · clear h hE hC hM ih
        simp (disch := omega) only [f_M_story, J_lit, J_add, J_sub, J_mul, J_neg, J_nat, J_inb, J_div, ↓reduceIte, Int.toNat_natCast, Option.bind_some, J_le_t, J_le_f, J_lt_t, J_lt_f, J_eq_t, J_eq_f, L_lit, L_add, L_sub, L_mul, L_div, JL, LJ, Int.reduceToNat, Int.toNat_zero, Int.toNat_one, xb, xm, within_t, within_f, nb_t, nb_f, ni_t, ni_f, in_t, in_f, less_, bad_0, bad_1, not_true_eq_false, not_false_eq_true, L_lt_t, L_lt_f, L_eq_t, L_eq_f, lg_gt, lg_eq, lg_lt]
    · rcases event_step K hK h (a := b) (by omega) hbb hn hE hC hM st fp with ⟨E', e, st', u1, u2, u3, u4, ne', s1, s2, s3, s4, s5, s6, s7, s8⟩ | ⟨k, p, x, y, u1, u2, u3, u4, un, st', ne', hk, hxy, s1, s2⟩
      · have e2 := p_M_blanks K hK h (a := e) (by omega)
        have c1 : f_Story_readFrom K cb (J N) (m + 1) 0 (J i, k1, k2, k3, k4, J n, J a, st, J 0, fp) = f_Story_readFrom K cb (J N) m 0 (J (i + 1 : Nat), u1, u2, u3, u4, J (n + 1 : Nat), J e, st', J 0, fp) := by
          clear h hE hC hM ih s2 s6 s7 s8
          simp (disch := omega) only [f_Story_readFrom, sp_Tape_hasMore, sp_Tape_failed, e1, s1, cast1, J_lit, J_add, J_sub, J_mul, J_neg, J_nat, J_inb, J_div, ↓reduceIte, Int.toNat_natCast, Option.bind_some, J_le_t, J_le_f, J_lt_t, J_lt_f, J_eq_t, J_eq_f, L_lit, L_add, L_sub, L_mul, L_div, JL, LJ, Int.reduceToNat, Int.toNat_zero, Int.toNat_one, xb, xm, within_t, within_f, nb_t, nb_f, ni_t, ni_f, in_t, in_f, less_, bad_0, bad_1, not_true_eq_false, not_false_eq_true, L_lt_t, L_lt_f, L_eq_t, L_eq_f, lg_gt, lg_eq, lg_lt]
        have c2 : f_M_story K mb (m' + 1) 1 (J 0, J 0, J n, J 0, J 0, thr, tp, J N, pl, J b, J 0, fp, sc, many, ev, ne) = f_M_story K mb m' 1 (J 0, J 0, J (n + 1 : Nat), J 0, J 0, thr, tp, J N, pl, J (bl B N e : Nat), J 0, fp, sc, many, ev, ne') := by
          clear h hE hC hM ih s1 s6 s7 s8
          simp (disch := omega) only [f_M_story, s2, e2, cast1, J_lit, J_add, J_sub, J_mul, J_neg, J_nat, J_inb, J_div, ↓reduceIte, Int.toNat_natCast, Option.bind_some, J_le_t, J_le_f, J_lt_t, J_lt_f, J_eq_t, J_eq_f, L_lit, L_add, L_sub, L_mul, L_div, JL, LJ, Int.reduceToNat, Int.toNat_zero, Int.toNat_one, xb, xm, within_t, within_f, nb_t, nb_f, ni_t, ni_f, in_t, in_f, less_, bad_0, bad_1, not_true_eq_false, not_false_eq_true, L_lt_t, L_lt_f, L_eq_t, L_eq_f, lg_gt, lg_eq, lg_lt]
        rcases ih e (i + 1) (by omega) s4 (by omega) (n := n + 1) (by omega) s6 s7 s8 st' m m' (by omega) (by omega) with ⟨n2, E2, e', st2, at2, v1, v2, v3, v4, ne2, q, t1, t2, t3, t4⟩ | ⟨k, p, v1, v2, v3, v4, vn, at2, st2, x, y, ne2, q, hk, t1, t2, t3⟩
        · exact Or.inl ⟨n2, E2, e', st2, at2, v1, v2, v3, v4, ne2, q, c1.trans t1, by omega, c2.trans t3, t4⟩
        · exact Or.inr ⟨k, p, v1, v2, v3, v4, vn, at2, st2, x, y, ne2, q, hk, c1.trans t1, by omega, c2.trans t3⟩
      · right
        obtain ⟨m, rfl⟩ : ∃ q, m = q + 1 := ⟨m - 1, by omega⟩
        obtain ⟨m', rfl⟩ : ∃ q, m' = q + 1 := ⟨m' - 1, by omega⟩
        have e2 := p_M_blanks K hK h (a := y) (by omega)
        have e3 := p_skipBlanks K hK h (a := x) (by omega)
        refine ⟨k, p, u1, u2, u3, u4, un, J (bl B N x : Nat), st', J (n + 1 : Nat), J (bl B N y : Nat), ne', m', hk, ?_, by omega, ?_⟩
        · clear h hE hC hM ih s2
          simp (disch := omega) only [f_Story_readFrom, sp_Tape_hasMore, sp_Tape_failed, e1, s1, cast1, e3, J_lit, J_add, J_sub, J_mul, J_neg, J_nat, J_inb, J_div, ↓reduceIte, Int.toNat_natCast, Option.bind_some, J_le_t, J_le_f, J_lt_t, J_lt_f, J_eq_t, J_eq_f, L_lit, L_add, L_sub, L_mul, L_div, JL, LJ, Int.reduceToNat, Int.toNat_zero, Int.toNat_one, xb, xm, within_t, within_f, nb_t, nb_f, ni_t, ni_f, in_t, in_f, less_, bad_0, bad_1, not_true_eq_false, not_false_eq_true, L_lt_t, L_lt_f, L_eq_t, L_eq_f, lg_gt, lg_eq, lg_lt]
        · clear h hE hC hM ih s1
          simp (disch := omega) only [f_M_story, s2, e2, cast1, J_lit, J_add, J_sub, J_mul, J_neg, J_nat, J_inb, J_div, ↓reduceIte, Int.toNat_natCast, Option.bind_some, J_le_t, J_le_f, J_lt_t, J_lt_f, J_eq_t, J_eq_f, L_lit, L_add, L_sub, L_mul, L_div, JL, LJ, Int.reduceToNat, Int.toNat_zero, Int.toNat_one, xb, xm, within_t, within_f, nb_t, nb_f, ni_t, ni_f, in_t, in_f, less_, bad_0, bad_1, not_true_eq_false, not_false_eq_true, L_lt_t, L_lt_f, L_eq_t, L_eq_f, lg_gt, lg_eq, lg_lt]
set_option maxHeartbeats 2000000 in
theorem story_take (K : Nat) (hK : 2000 ≤ K) (mb : Nat → Int32) (thr tp sz pl at' fk fp : Int32) {m n : Nat} (hm : m < 4) (hn : n ≤ 20) (many : Nat → Int32) (ev ne : Nat → Nat → Int32) (k : Nat) (hk : 200 ≤ k) : ∃ ev' : Nat → Nat → Int32, f_M_story K mb k 3 (J 0, J 0, J n, J 0, J 0, thr, tp, sz, pl, at', fk, fp, J m, many, ev, ne) = some (J m, thr, tp, sz, pl, at', fk, fp, J (m + 1 : Nat), upd many m (J n), ev', ne) ∧ (∀ i, i < n → ∀ c, c < 4 → ev' (20 * m + i) c = ne i c) ∧ ∀ r, (r < 20 * m ∨ 20 * m + n ≤ r) → ev' r = ev r := by
  obtain ⟨q, s, g1, ⟨ev', rfl, b1, b2⟩, g3⟩ := lp (fun q s => f_M_story K mb q 3 s) (fun i s => ∃ ev' : Nat → Nat → Int32, s = (J 0, J 0, J n, J i, J 0, thr, tp, sz, pl, at', fk, fp, J m, many, ev', ne) ∧ (∀ j, j < i → ∀ c, c < 4 → ev' (20 * m + j) c = ne j c) ∧ ∀ r, (r < 20 * m ∨ 20 * m + i ≤ r) → ev' r = ev r) 6 n (by
    rintro i hi s ⟨ev', rfl, b1, b2⟩ q
    have eix : (20 : Int) * (m : Int) + (i : Int) = ((20 * m + i : Nat) : Int) := by omega
    obtain ⟨q', s', k1, ⟨d, rfl, e5, e6⟩, k3⟩ := lp (fun q s => f_M_story K mb q 4 s) (fun c s => ∃ d : Nat → Nat → Int32, s = (J 0, J 0, J n, J i, J c, thr, tp, sz, pl, at', fk, fp, J m, many, d, ne) ∧ (∀ z, z < c → d (20 * m + i) z = ne i z) ∧ ∀ r, r ≠ 20 * m + i → d r = ev' r) 1 4 (by
      rintro c hc s ⟨d, rfl, e5, e6⟩ q
      refine ⟨q, _, by omega, ⟨va_up d (20 * m + i) (upd (d (20 * m + i)) c (ne i c)), rfl, fun z hz => ?_, fun r hr => ?_⟩, ?_⟩
      · rw [va_up_eq]; unfold upd; split
        · next hh => rw [hh]
        · exact e5 z (by omega)
      · rw [pu_up_ne _ _ hr]; exact e6 r hr
      · clear e5 e6 b1 b2
        simp (disch := omega) only [f_M_story, eix, cast1, J_lit, J_add, J_sub, J_mul, J_neg, J_nat, J_inb, J_div, ↓reduceIte, Int.toNat_natCast, Option.bind_some, J_le_t, J_le_f, J_lt_t, J_lt_f, J_eq_t, J_eq_f, L_lit, L_add, L_sub, L_mul, L_div, JL, LJ, Int.reduceToNat, Int.toNat_zero, Int.toNat_one, xb, xm, within_t, within_f, nb_t, nb_f, ni_t, ni_f, in_t, in_f, less_, bad_0, bad_1, not_true_eq_false, not_false_eq_true, L_lt_t, L_lt_f, L_eq_t, L_eq_f, lg_gt, lg_eq, lg_lt]) (J 0, J 0, J n, J i, J (0 : Nat), thr, tp, sz, pl, at', fk, fp, J m, many, ev', ne) ⟨ev', rfl, fun z hz => by omega, fun _ _ => rfl⟩ (q + 5) (by omega)
    obtain ⟨q', rfl⟩ : ∃ z, q' = z + 1 := ⟨q' - 1, by omega⟩
    refine ⟨q', (J 0, J 0, J n, J (i + 1 : Nat), J 0, thr, tp, sz, pl, at', fk, fp, J m, many, d, ne), by omega, ⟨d, rfl, fun j hj c hc => ?_, fun r hr => ?_⟩, ?_⟩
    · by_cases hji : j = i
      · subst hji; exact e5 c hc
      · rw [e6 _ (by omega)]; exact b1 j (by omega) c hc
    · rw [e6 _ (by omega)]; exact b2 r (by omega)
    · have c1 : ∀ q, f_M_story K mb (q + 1) 3 (J 0, J 0, J n, J i, J 0, thr, tp, sz, pl, at', fk, fp, J m, many, ev', ne) = f_M_story K mb q 4 (J 0, J 0, J n, J i, J (0 : Nat), thr, tp, sz, pl, at', fk, fp, J m, many, ev', ne) := fun q => by
        clear e5 e6 b1 b2 k3
        simp (disch := omega) only [f_M_story, J_lit, J_add, J_sub, J_mul, J_neg, J_nat, J_inb, J_div, ↓reduceIte, Int.toNat_natCast, Option.bind_some, J_le_t, J_le_f, J_lt_t, J_lt_f, J_eq_t, J_eq_f, L_lit, L_add, L_sub, L_mul, L_div, JL, LJ, Int.reduceToNat, Int.toNat_zero, Int.toNat_one, xb, xm, within_t, within_f, nb_t, nb_f, ni_t, ni_f, in_t, in_f, less_, bad_0, bad_1, not_true_eq_false, not_false_eq_true, L_lt_t, L_lt_f, L_eq_t, L_eq_f, lg_gt, lg_eq, lg_lt]
        rfl
      refine (c1 (q + 5)).trans (Eq.trans k3 ?_)
      clear e5 e6 b1 b2 k3
      simp (disch := omega) only [f_M_story, cast1, J_lit, J_add, J_sub, J_mul, J_neg, J_nat, J_inb, J_div, ↓reduceIte, Int.toNat_natCast, Option.bind_some, J_le_t, J_le_f, J_lt_t, J_lt_f, J_eq_t, J_eq_f, L_lit, L_add, L_sub, L_mul, L_div, JL, LJ, Int.reduceToNat, Int.toNat_zero, Int.toNat_one, xb, xm, within_t, within_f, nb_t, nb_f, ni_t, ni_f, in_t, in_f, less_, bad_0, bad_1, not_true_eq_false, not_false_eq_true, L_lt_t, L_lt_f, L_eq_t, L_eq_f, lg_gt, lg_eq, lg_lt]) (J 0, J 0, J n, J (0 : Nat), J 0, thr, tp, sz, pl, at', fk, fp, J m, many, ev, ne) ⟨ev, rfl, fun j hj => by omega, fun _ _ => rfl⟩ k (by omega)
  obtain ⟨q, rfl⟩ : ∃ z, q = z + 1 := ⟨q - 1, by omega⟩
  refine ⟨ev', Eq.trans g3 ?_, b1, b2⟩
  have e1 : (m : Int) + 1 - 1 = (m : Int) := by omega
  clear b1 b2 g3
  simp (disch := omega) only [f_M_story, cast1, J_lit, J_add, J_sub, J_mul, J_neg, J_nat, J_inb, J_div, ↓reduceIte, Int.toNat_natCast, Option.bind_some, J_le_t, J_le_f, J_lt_t, J_lt_f, J_eq_t, J_eq_f, L_lit, L_add, L_sub, L_mul, L_div, JL, LJ, Int.reduceToNat, Int.toNat_zero, Int.toNat_one, xb, xm, within_t, within_f, nb_t, nb_f, ni_t, ni_f, in_t, in_f, less_, bad_0, bad_1, not_true_eq_false, not_false_eq_true, L_lt_t, L_lt_f, L_eq_t, L_eq_f, lg_gt, lg_eq, lg_lt]
  rw [show ((m + 1 : Nat) : Int) - 1 = (m : Int) by omega]
set_option maxHeartbeats 2000000 in
theorem pc_story (K : Nat) (hK : 1000000 ≤ K) (p1 thr : Int32) {cb mb : Nat → Int32} {cn mn : Int32} {tn : Nat} {B : Nat → Nat} (hT : RT cb cn mb mn tn B) {m : Nat} {EN : Nat → Nat} {EE : Nat → Nat → Nat → Nat} {stories : Nat → Option Nat} {QS : Nat → Nat} {k1 k2 k3 k4 : Nat → Nat → Int32} {kn : Nat → Int32} {many : Nat → Int32} {ev : Nat → Nat → Int32} (hS : HS m EN EE stories QS k1 k2 k3 k4 kn many ev) (j : Nat) (hj : m < 4 → j = m) (qd : Nat) (te ta' ts tk fpl : Int32) (d1 d2 d3 d4 : Nat → Int32) (d5 : Int32) (o : Nat → Int64) (msz mat mfk mfp : Int32) (ne : Nat → Nat → Int32) : ∃ (kd : Int32) (st' : Nat → Option Nat) (qd' : Nat) (z0 z1 z2 z3 z4 z5 fpl' : Int32) (e1 e2 e3 e4 : Nat → Int32) (e5 : Int32) (o' : Nat → Int64) (b thr' tp y1 y2 y3 y4 sc : Int32) (many' : Nat → Int32) (ev' ne' : Nat → Nat → Int32), sp_W_story K p1 stories (QS j) qd (J m) cb cn te ta' ts tk fpl d1 d2 d3 d4 d5 o = some (kd, st', qd', z0, z1, z2, z3, z4, z5, fpl', e1, e2, e3, e4, e5, o') ∧ sp_M_story K p1 thr mn msz fpl mat mfk mfp mb (J m) many ev ne = some (b, thr', tp, y1, fpl', y2, y3, y4, sc, many', ev', ne') ∧ AA kd o' b thr' ∧ (∃ n' B', RT cb z1 mb tp n' B') ∧ ((st' = stories ∧ qd' = qd ∧ z0 = J m ∧ sc = J m ∧ many' = many ∧ ev' = ev) ∨ (m < 4 ∧ st' = va_up stories m (some qd) ∧ qd' = QS j ∧ z0 = J (m + 1 : Nat) ∧ sc = J (m + 1 : Nat) ∧ ∃ EN' EE', HS (m + 1) EN' EE' (va_up stories m (some qd)) (va_up QS m qd) (va_up k1 m e1) (va_up k2 m e2) (va_up k3 m e3) (va_up k4 m e4) (va_up kn m e5) many' ev')) := by
  have hT' := hT
  have hS' := hS
  obtain ⟨hn, rfl, rfl, -⟩ := hT
  obtain ⟨hm, hq, hst⟩ := hS
  obtain ⟨N, rfl, hN⟩ := ex_J p1
  have eLs := less_ K (a := tn) (b := 300) (by omega) (by omega)
  by_cases hc : 0 ≤ N ∧ N ≤ tn ∧ N ≤ 300
  · obtain ⟨N, rfl⟩ : ∃ x : Nat, N = x := ⟨N.toNat, by omega⟩
    have hX : TX cb mb N B := RT_TX hT' (by omega)
    have bl0 := p_M_blanks K (by omega) hX (a := 0) (by omega)
    rw [Int.natCast_zero] at bl0
    have eIn := in_t K (a := N) (b := 0) (c := min (tn : Int) 300) (by omega) (by omega) (by omega) (by omega)
    obtain ⟨K, rfl⟩ : ∃ k, K = k + 1 := ⟨K - 1, by omega⟩
    have eC0 : sp_openText (K + 1) (J N) 300 (J tn) te ta' ts tk fpl = some (.inr (J 0, J N, J 0, J 0, J 0, J (-1))) := by
      clear hT' hX hst hS'
      by_cases hN0 : N = 0
      · subst hN0
        simp (disch := omega) only [sp_openText, sp_Tape_open, J_lit, J_add, J_sub, J_mul, J_neg, J_nat, J_inb, J_div, ↓reduceIte, Int.toNat_natCast, Option.bind_some, J_le_t, J_le_f, J_lt_t, J_lt_f, J_eq_t, J_eq_f, L_lit, L_add, L_sub, L_mul, L_div, JL, LJ, Int.reduceToNat, Int.toNat_zero, Int.toNat_one, xb, xm, within_t, within_f, nb_t, nb_f, ni_t, ni_f, in_t, in_f, less_, bad_0, bad_1, not_true_eq_false, not_false_eq_true, L_lt_t, L_lt_f, L_eq_t, L_eq_f, lg_gt, lg_eq, lg_lt]
        rfl
      · simp (disch := omega) only [sp_openText, sp_Tape_open, J_lit, J_add, J_sub, J_mul, J_neg, J_nat, J_inb, J_div, ↓reduceIte, Int.toNat_natCast, Option.bind_some, J_le_t, J_le_f, J_lt_t, J_lt_f, J_eq_t, J_eq_f, L_lit, L_add, L_sub, L_mul, L_div, JL, LJ, Int.reduceToNat, Int.toNat_zero, Int.toNat_one, xb, xm, within_t, within_f, nb_t, nb_f, ni_t, ni_f, in_t, in_f, less_, bad_0, bad_1, not_true_eq_false, not_false_eq_true, L_lt_t, L_lt_f, L_eq_t, L_eq_f, lg_gt, lg_eq, lg_lt]
    by_cases hm4 : m < 4
    · obtain rfl := hj hm4
      have eM1 : sp_M_story (K + 1) (J N) thr (J tn) msz fpl mat mfk mfp mb (J j) many ev ne = f_M_story (K + 1) mb K 1 (J 0, J 0, J (0 : Nat), J 0, J 0, J 0, J 0, J N, J (-1), J (bl B N 0 : Nat), J 0, J (-1), J j, many, ev, ne) := by
        clear hT' hX hst hS' eC0
        simp (disch := omega) only [sp_M_story, eLs, eIn, J_lit, J_add, J_sub, J_mul, J_neg, J_nat, J_inb, J_div, ↓reduceIte, Int.toNat_natCast, Option.bind_some, J_le_t, J_le_f, J_lt_t, J_lt_f, J_eq_t, J_eq_f, L_lit, L_add, L_sub, L_mul, L_div, JL, LJ, Int.reduceToNat, Int.toNat_zero, Int.toNat_one, xb, xm, within_t, within_f, nb_t, nb_f, ni_t, ni_f, in_t, in_f, less_, bad_0, bad_1, not_true_eq_false, not_false_eq_true, L_lt_t, L_lt_f, L_eq_t, L_eq_f, lg_gt, lg_eq, lg_lt]
        rw [f_M_story]
        simp (disch := omega) only [sp_M_begins, bl0, J_lit, J_add, J_sub, J_mul, J_neg, J_nat, J_inb, J_div, ↓reduceIte, Int.toNat_natCast, Option.bind_some, J_le_t, J_le_f, J_lt_t, J_lt_f, J_eq_t, J_eq_f, L_lit, L_add, L_sub, L_mul, L_div, JL, LJ, Int.reduceToNat, Int.toNat_zero, Int.toNat_one, xb, xm, within_t, within_f, nb_t, nb_f, ni_t, ni_f, in_t, in_f, less_, bad_0, bad_1, not_true_eq_false, not_false_eq_true, L_lt_t, L_lt_f, L_eq_t, L_eq_f, lg_gt, lg_eq, lg_lt]
        rfl
      have eC1 : sp_Story_readFrom (K + 1) d1 d2 d3 d4 d5 cb (J N) (J 0) (J 0) (J 0) (J (-1)) = f_Story_readFrom (K + 1) cb (J N) (K + 1) 0 (J (0 : Nat), d1, d2, d3, d4, J (0 : Nat), J (0 : Nat), J 0, J 0, J (-1)) := rfl
      rcases story_loop (K + 1) (by omega) hX (J 0) (J 0) (J (-1)) (J j) many ev (J (-1)) N 0 0 (by omega) (by omega) (by omega) (n := 0) (by omega) (E := fun _ _ => 0) ⟨by omega, fun i hi => by omega, fun i j' _ hi => by omega⟩ (k1 := d1) (k2 := d2) (k3 := d3) (k4 := d4) ⟨rfl, fun i hi => by omega, fun i hi => by omega, fun i hi => by omega, fun i hi => by omega⟩ (ne := ne) (fun i hi => by omega) (J 0) (K + 1) K (by omega) (by omega) with ⟨n', E', e, st', at', u1, u2, u3, u4, ne', qq, r1, r2, r3, r4, r5, r6, r7⟩ | ⟨k, p, u1, u2, u3, u4, un, at', st', x, y, ne', qq, hk, r1, r2, r3⟩
      · obtain ⟨qq, rfl⟩ : ∃ z, qq = z + 1 := ⟨qq - 1, by omega⟩
        obtain ⟨ev', tk1, tk2, tk3⟩ := story_take (K + 1) (by omega) mb (J 0) (J 0) (J N) (J (-1)) (J e) (J 0) (J (-1)) hm4 r4 many ev ne' qq (by omega)
        have eM2 : f_M_story (K + 1) mb (qq + 1) 2 (J 0, J 0, J n', J 0, J 0, J 0, J 0, J N, J (-1), J e, J 0, J (-1), J j, many, ev, ne') = f_M_story (K + 1) mb qq 3 (J 0, J 0, J n', J 0, J 0, J 0, J 0, J N, J (-1), J e, J 0, J (-1), J j, many, ev, ne') := by
          clear hT' hX hst hS' eC0 r1 r3 r5 r6 r7 tk1 tk2 tk3
          simp (disch := omega) only [f_M_story, J_lit, J_add, J_sub, J_mul, J_neg, J_nat, J_inb, J_div, ↓reduceIte, Int.toNat_natCast, Option.bind_some, J_le_t, J_le_f, J_lt_t, J_lt_f, J_eq_t, J_eq_f, L_lit, L_add, L_sub, L_mul, L_div, JL, LJ, Int.reduceToNat, Int.toNat_zero, Int.toNat_one, xb, xm, within_t, within_f, nb_t, nb_f, ni_t, ni_f, in_t, in_f, less_, bad_0, bad_1, not_true_eq_false, not_false_eq_true, L_lt_t, L_lt_f, L_eq_t, L_eq_f, lg_gt, lg_eq, lg_lt]
        have eR : sp_Story_readFrom (K + 1) d1 d2 d3 d4 d5 cb (J N) (J 0) (J 0) (J 0) (J (-1)) = some (u1, u2, u3, u4, J n', at', st', J 0, J (-1)) := eC1.trans r1
        have hqj := hq j hm4
        refine ⟨J 0, va_up stories j (some qd), QS j, J (j + 1 : Nat), J 0, J N, at', st', J 0, J (-1), u1, u2, u3, u4, J n', vp_updL o 0 (L j), J j, J 0, J 0, J N, J e, J 0, J (-1), J (j + 1 : Nat), upd many j (J n'), ev', ne', ?_, eM1.trans (r3.trans (eM2.trans tk1)), AA_L o (by omega), ⟨0, B, by omega, rfl, rfl, fun i hi => by omega, fun i hi => by omega, fun i hi => by omega⟩, Or.inr ⟨hm4, rfl, rfl, rfl, rfl, va_up EN j n', va_up EE j E', by omega, fun i hi => ?_, fun i hi => ?_⟩⟩
        · have w4 := within_t (K + 1) (a := j) (b := 4) (by omega)
          have e9 : ((j + 1 : Nat) : Int) - 1 = (j : Int) := by omega
          clear hT' hX hst hS' r1 r3 r5 r6 r7 tk1 tk2 tk3
          simp (disch := omega) only [sp_W_story, sp_story, J_lit, J_add, J_sub, J_mul, J_neg, J_nat, J_inb, J_div, ↓reduceIte, Int.toNat_natCast, Option.bind_some, J_le_t, J_le_f, J_lt_t, J_lt_f, J_eq_t, J_eq_f, L_lit, L_add, L_sub, L_mul, L_div, JL, LJ, Int.reduceToNat, Int.toNat_zero, Int.toNat_one, xb, xm, within_t, within_f, nb_t, nb_f, ni_t, ni_f, in_t, in_f, less_, bad_0, bad_1, not_true_eq_false, not_false_eq_true, L_lt_t, L_lt_f, L_eq_t, L_eq_f, lg_gt, lg_eq, lg_lt]
          rw [show J 300 = 300 from rfl, eC0]
          simp (disch := omega) only [w4, eR, sp_Tape_failed, hqj, cast1, e9, J_lit, J_add, J_sub, J_mul, J_neg, J_nat, J_inb, J_div, ↓reduceIte, Int.toNat_natCast, Option.bind_some, J_le_t, J_le_f, J_lt_t, J_lt_f, J_eq_t, J_eq_f, L_lit, L_add, L_sub, L_mul, L_div, JL, LJ, Int.reduceToNat, Int.toNat_zero, Int.toNat_one, xb, xm, within_t, within_f, nb_t, nb_f, ni_t, ni_f, in_t, in_f, less_, bad_0, bad_1, not_true_eq_false, not_false_eq_true, L_lt_t, L_lt_f, L_eq_t, L_eq_f, lg_gt, lg_eq, lg_lt]
        · by_cases hij : i = j
          · subst hij; rw [va_up_eq, va_up_eq]
          · rw [pu_up_ne _ _ hij, pu_up_ne _ _ hij]; exact hq i hi
        · by_cases hij : i = j
          · subst hij
            simp only [va_up_eq]
            exact ⟨r5, r6, hm4, r4, by unfold upd; rw [if_pos rfl], fun z hz c hc => by rw [tk2 z hz c hc]; exact r7 z hz c hc⟩
          · simp only [pu_up_ne _ _ hij]
            obtain ⟨a1, a2, a3, a4, a5, a6⟩ := hst i (by omega)
            refine ⟨a1, a2, a3, a4, by unfold upd; rw [if_neg hij]; exact a5, fun z hz c hc => ?_⟩
            rw [tk3 _ (by omega)]
            exact a6 z hz c hc
      · obtain ⟨qq, rfl⟩ : ∃ z, qq = z + 1 := ⟨qq - 1, by omega⟩
        have hkz : (k : Int) ≠ 0 := by omega
        have eM2 : f_M_story (K + 1) mb (qq + 1) 2 (J 0, J 0, x, J 0, J 0, J 0, J 0, J N, J (-1), y, J k, J p, J j, many, ev, ne') = some (J ((k : Int) - 10), J 0, J 0, J N, J p, y, J k, J p, J j, many, ev, ne') := by
          clear hT' hX hst hS' eC0 r1 r3
          simp (disch := omega) only [f_M_story, J_lit, J_add, J_sub, J_mul, J_neg, J_nat, J_inb, J_div, ↓reduceIte, Int.toNat_natCast, Option.bind_some, J_le_t, J_le_f, J_lt_t, J_lt_f, J_eq_t, J_eq_f, L_lit, L_add, L_sub, L_mul, L_div, JL, LJ, Int.reduceToNat, Int.toNat_zero, Int.toNat_one, xb, xm, within_t, within_f, nb_t, nb_f, ni_t, ni_f, in_t, in_f, less_, bad_0, bad_1, not_true_eq_false, not_false_eq_true, L_lt_t, L_lt_f, L_eq_t, L_eq_f, lg_gt, lg_eq, lg_lt]
        have eR : sp_Story_readFrom (K + 1) d1 d2 d3 d4 d5 cb (J N) (J 0) (J 0) (J 0) (J (-1)) = some (u1, u2, u3, u4, un, at', st', J k, J p) := eC1.trans r1
        refine ⟨J 0, stories, qd, J j, J 0, J N, at', st', J k, J p, u1, u2, u3, u4, un, vp_updL o 0 (L ((k : Int) - 10)), J ((k : Int) - 10), J 0, J 0, J N, y, J k, J p, J j, many, ev, ne', ?_, eM1.trans (r3.trans eM2), AA_L o (by omega), ⟨0, B, by omega, rfl, rfl, fun i hi => by omega, fun i hi => by omega, fun i hi => by omega⟩, Or.inl ⟨rfl, rfl, rfl, rfl, rfl, rfl⟩⟩
        have w4 := within_t (K + 1) (a := j) (b := 4) (by omega)
        clear hT' hX hst hS' r1 r3
        simp (disch := omega) only [sp_W_story, sp_story, J_lit, J_add, J_sub, J_mul, J_neg, J_nat, J_inb, J_div, ↓reduceIte, Int.toNat_natCast, Option.bind_some, J_le_t, J_le_f, J_lt_t, J_lt_f, J_eq_t, J_eq_f, L_lit, L_add, L_sub, L_mul, L_div, JL, LJ, Int.reduceToNat, Int.toNat_zero, Int.toNat_one, xb, xm, within_t, within_f, nb_t, nb_f, ni_t, ni_f, in_t, in_f, less_, bad_0, bad_1, not_true_eq_false, not_false_eq_true, L_lt_t, L_lt_f, L_eq_t, L_eq_f, lg_gt, lg_eq, lg_lt]
        rw [show J 300 = 300 from rfl, eC0]
        simp (disch := omega) only [w4, eR, sp_Tape_failed, J_lit, J_add, J_sub, J_mul, J_neg, J_nat, J_inb, J_div, ↓reduceIte, Int.toNat_natCast, Option.bind_some, J_le_t, J_le_f, J_lt_t, J_lt_f, J_eq_t, J_eq_f, L_lit, L_add, L_sub, L_mul, L_div, JL, LJ, Int.reduceToNat, Int.toNat_zero, Int.toNat_one, xb, xm, within_t, within_f, nb_t, nb_f, ni_t, ni_f, in_t, in_f, less_, bad_0, bad_1, not_true_eq_false, not_false_eq_true, L_lt_t, L_lt_f, L_eq_t, L_eq_f, lg_gt, lg_eq, lg_lt]
    · obtain rfl : m = 4 := by omega
      refine ⟨J 0, stories, qd, J (4 : Nat), J 0, J N, J 0, J 0, J 0, J (-1), d1, d2, d3, d4, d5, vp_updL o 0 (L (-1)), J (-1), J 0, J 0, J N, J (bl B N 0 : Nat), J 0, J (-1), J (4 : Nat), many, ev, ne, ?_, ?_, AA_L o (by omega), ⟨0, B, by omega, rfl, rfl, fun i hi => by omega, fun i hi => by omega, fun i hi => by omega⟩, Or.inl ⟨rfl, rfl, rfl, rfl, rfl, rfl⟩⟩
      · have w4 := within_f (K + 1) (a := ((4 : Nat) : Int)) (b := 4) (by omega) (by omega) (by omega)
        clear hT' hX hst hS'
        simp (disch := omega) only [sp_W_story, sp_story, J_lit, J_add, J_sub, J_mul, J_neg, J_nat, J_inb, J_div, ↓reduceIte, Int.toNat_natCast, Option.bind_some, J_le_t, J_le_f, J_lt_t, J_lt_f, J_eq_t, J_eq_f, L_lit, L_add, L_sub, L_mul, L_div, JL, LJ, Int.reduceToNat, Int.toNat_zero, Int.toNat_one, xb, xm, within_t, within_f, nb_t, nb_f, ni_t, ni_f, in_t, in_f, less_, bad_0, bad_1, not_true_eq_false, not_false_eq_true, L_lt_t, L_lt_f, L_eq_t, L_eq_f, lg_gt, lg_eq, lg_lt]
        rw [show J 300 = 300 from rfl, eC0]
        simp (disch := omega) only [w4, J_lit, J_add, J_sub, J_mul, J_neg, J_nat, J_inb, J_div, ↓reduceIte, Int.toNat_natCast, Option.bind_some, J_le_t, J_le_f, J_lt_t, J_lt_f, J_eq_t, J_eq_f, L_lit, L_add, L_sub, L_mul, L_div, JL, LJ, Int.reduceToNat, Int.toNat_zero, Int.toNat_one, xb, xm, within_t, within_f, nb_t, nb_f, ni_t, ni_f, in_t, in_f, less_, bad_0, bad_1, not_true_eq_false, not_false_eq_true, L_lt_t, L_lt_f, L_eq_t, L_eq_f, lg_gt, lg_eq, lg_lt]
      · clear hT' hX hst hS' eC0
        simp (disch := omega) only [sp_M_story, eLs, eIn, f_M_story, sp_M_begins, bl0, J_lit, J_add, J_sub, J_mul, J_neg, J_nat, J_inb, J_div, ↓reduceIte, Int.toNat_natCast, Option.bind_some, J_le_t, J_le_f, J_lt_t, J_lt_f, J_eq_t, J_eq_f, L_lit, L_add, L_sub, L_mul, L_div, JL, LJ, Int.reduceToNat, Int.toNat_zero, Int.toNat_one, xb, xm, within_t, within_f, nb_t, nb_f, ni_t, ni_f, in_t, in_f, less_, bad_0, bad_1, not_true_eq_false, not_false_eq_true, L_lt_t, L_lt_f, L_eq_t, L_eq_f, lg_gt, lg_eq, lg_lt]
  · have eIn := in_f K (a := N) (b := 0) (c := min (tn : Int) 300) hN (by omega) (by omega) (by omega)
    obtain ⟨K, rfl⟩ : ∃ k, K = k + 1 := ⟨K - 1, by omega⟩
    refine ⟨J 1, stories, qd, J m, J tn, te, ta', ts, tk, fpl, d1, d2, d3, d4, d5, o, J 0, J 1, J tn, msz, mat, mfk, mfp, J m, many, ev, ne, ?_, ?_, AA_e _ _ (by omega), ⟨tn, B, hT'⟩, Or.inl ⟨rfl, rfl, rfl, rfl, rfl, rfl⟩⟩
    · clear hT' hst hS'
      by_cases h0 : N < 0
      · simp (disch := omega) only [sp_W_story, sp_story, sp_openText, J_lit, J_add, J_sub, J_mul, J_neg, J_nat, J_inb, J_div, ↓reduceIte, Int.toNat_natCast, Option.bind_some, J_le_t, J_le_f, J_lt_t, J_lt_f, J_eq_t, J_eq_f, L_lit, L_add, L_sub, L_mul, L_div, JL, LJ, Int.reduceToNat, Int.toNat_zero, Int.toNat_one, xb, xm, within_t, within_f, nb_t, nb_f, ni_t, ni_f, in_t, in_f, less_, bad_0, bad_1, not_true_eq_false, not_false_eq_true, L_lt_t, L_lt_f, L_eq_t, L_eq_f, lg_gt, lg_eq, lg_lt]
      · by_cases h1 : (tn : Int) < N
        · simp (disch := omega) only [sp_W_story, sp_story, sp_openText, J_lit, J_add, J_sub, J_mul, J_neg, J_nat, J_inb, J_div, ↓reduceIte, Int.toNat_natCast, Option.bind_some, J_le_t, J_le_f, J_lt_t, J_lt_f, J_eq_t, J_eq_f, L_lit, L_add, L_sub, L_mul, L_div, JL, LJ, Int.reduceToNat, Int.toNat_zero, Int.toNat_one, xb, xm, within_t, within_f, nb_t, nb_f, ni_t, ni_f, in_t, in_f, less_, bad_0, bad_1, not_true_eq_false, not_false_eq_true, L_lt_t, L_lt_f, L_eq_t, L_eq_f, lg_gt, lg_eq, lg_lt]
        · have h2 : 300 < N := by omega
          clear hc
          simp (disch := omega) only [sp_W_story, sp_story, sp_openText, J_lit, J_add, J_sub, J_mul, J_neg, J_nat, J_inb, J_div, ↓reduceIte, Int.toNat_natCast, Option.bind_some, J_le_t, J_le_f, J_lt_t, J_lt_f, J_eq_t, J_eq_f, L_lit, L_add, L_sub, L_mul, L_div, JL, LJ, Int.reduceToNat, Int.toNat_zero, Int.toNat_one, xb, xm, within_t, within_f, nb_t, nb_f, ni_t, ni_f, in_t, in_f, less_, bad_0, bad_1, not_true_eq_false, not_false_eq_true, L_lt_t, L_lt_f, L_eq_t, L_eq_f, lg_gt, lg_eq, lg_lt]
    · clear hT' hst hS'
      simp (disch := omega) only [sp_M_story, eLs, eIn, f_M_story, J_lit, J_add, J_sub, J_mul, J_neg, J_nat, J_inb, J_div, ↓reduceIte, Int.toNat_natCast, Option.bind_some, J_le_t, J_le_f, J_lt_t, J_lt_f, J_eq_t, J_eq_f, L_lit, L_add, L_sub, L_mul, L_div, JL, LJ, Int.reduceToNat, Int.toNat_zero, Int.toNat_one, xb, xm, within_t, within_f, nb_t, nb_f, ni_t, ni_f, in_t, in_f, less_, bad_0, bad_1, not_true_eq_false, not_false_eq_true, L_lt_t, L_lt_f, L_eq_t, L_eq_f, lg_gt, lg_eq, lg_lt]
