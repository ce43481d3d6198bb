def J (x : Int) : Int32 := Int32.ofInt x
def jA (A : Nat → Int) : Nat → Int32 := fun i => J (A i)
def L (x : Int) : Int64 := Int64.ofInt x
theorem J_lit (n : Nat) : (OfNat.ofNat n : Int32) = J (OfNat.ofNat n) := by
  unfold J; exact (Int32.ofInt_eq_ofNat (n := n)).symm
theorem J_add (a b : Int) : J a + J b = J (a + b) := (Int32.ofInt_add a b).symm
theorem J_sub (a b : Int) : J a - J b = J (a - b) := (Int32.ofInt_sub a b).symm
theorem J_mul (a b : Int) : J a * J b = J (a * b) := (Int32.ofInt_mul a b).symm
theorem J_neg (a : Int) : - J a = J (-a) := (Int32.ofInt_neg a).symm
theorem J_toInt {a : Int} (h : -2147483648 ≤ a) (h2 : a < 2147483648) : (J a).toInt = a := Int32.toInt_ofInt_of_le h h2
theorem J_of (x : Int32) : J x.toInt = x := Int32.ofInt_toInt x
theorem J_le {a b : Int} (ha : -2147483648 ≤ a ∧ a < 2147483648) (hb : -2147483648 ≤ b ∧ b < 2147483648) : (J a ≤ J b) = (a ≤ b) := by
  rw [Int32.le_iff_toInt_le, J_toInt ha.1 ha.2, J_toInt hb.1 hb.2]
theorem J_lt {a b : Int} (ha : -2147483648 ≤ a ∧ a < 2147483648) (hb : -2147483648 ≤ b ∧ b < 2147483648) : (J a < J b) = (a < b) := by
  rw [Int32.lt_iff_toInt_lt, J_toInt ha.1 ha.2, J_toInt hb.1 hb.2]
theorem J_eq {a b : Int} (ha : -2147483648 ≤ a ∧ a < 2147483648) (hb : -2147483648 ≤ b ∧ b < 2147483648) : (J a = J b) = (a = b) := by
  rw [← Int32.toInt_inj, J_toInt ha.1 ha.2, J_toInt hb.1 hb.2]
theorem J_nat {a : Int} (ha : -2147483648 ≤ a ∧ a < 2147483648) : (J a).toNatClampNeg = a.toNat := by
  unfold Int32.toNatClampNeg; rw [J_toInt ha.1 ha.2]
theorem J_inb {a : Int} {n : Nat} (ha : 0 ≤ a ∧ a < n ∧ n ≤ 2147483648) : (¬ (J a < 0 ∨ n ≤ (J a).toNatClampNeg)) = True := by
  rw [show (0 : Int32) = J 0 from rfl, J_lt ⟨by omega, by omega⟩ ⟨by omega, by omega⟩, J_nat ⟨by omega, by omega⟩]
  simp; omega
theorem J_div {a b : Int} (ha : 0 ≤ a ∧ a < 2147483648) (hb : 0 < b ∧ b < 2147483648) : J a / J b = J (a / b) := by
  rw [← J_of (J a / J b), Int32.toInt_div, J_toInt (by omega) ha.2, J_toInt (by omega) hb.2, Int.tdiv_eq_ediv_of_nonneg ha.1]
  congr 1
  have h1 : a / b ≤ a := Int.ediv_le_self b ha.1
  have h2 : 0 ≤ a / b := Int.ediv_nonneg ha.1 (by omega)
  exact Int.bmod_eq_of_le (by omega) (by omega)
theorem jA_app (A : Nat → Int) (i : Nat) : jA A i = J (A i) := rfl
theorem jA_upd (A : Nat → Int) (i : Nat) (v : Int) : upd (jA A) i (J v) = jA (va_up A i v) := by
  funext k; unfold upd jA va_up; split <;> rfl
theorem lp {σ α : Type} (f : Nat → σ → Option α) (P : Nat → σ → Prop) (c : Nat) (N : Nat) (h : ∀ i, i < N → ∀ s, P i s → ∀ n, ∃ n' s', n ≤ n' ∧ P (i + 1) s' ∧ f (n + c) s = f n' s') :
    ∀ s, P 0 s → ∀ n, c * N ≤ n → ∃ n' s', n ≤ n' + c * N ∧ P N s' ∧ f n s = f n' s' := by
  suffices H : ∀ M, M ≤ N → ∀ s, P 0 s → ∀ n, c * M ≤ n → ∃ n' s', n ≤ n' + c * M ∧ P M s' ∧ f n s = f n' s' from fun s hs n hn => H N (Nat.le_refl _) s hs n hn
  intro M
  induction M with
  | zero => intro _ s hs n _; exact ⟨n, s, by omega, hs, rfl⟩
  | succ M ih =>
    intro hM s hs n hn
    rw [Nat.mul_succ] at hn
    obtain ⟨n1, s1, h1, h2, h3⟩ := ih (by omega) s hs n (by omega)
    obtain ⟨n2, s2, h4, h5, h6⟩ := h M (by omega) s1 h2 (n1 - c)
    rw [Nat.sub_add_cancel (by omega)] at h6
    exact ⟨n2, s2, by rw [Nat.mul_succ]; omega, h5, h3.trans h6⟩
theorem lpe {σ α : Type} (f : Nat → σ → Option α) (s : Nat → σ) (c : Nat) (N : Nat) (h : ∀ i, i < N → ∀ n, ∃ n', n ≤ n' ∧ f (n + c) (s i) = f n' (s (i + 1))) :
    ∀ n, c * N + 1 ≤ n → ∃ n', n ≤ n' + 1 + c * N ∧ f n (s 0) = f (n' + 1) (s N) := by
  intro n hn
  obtain ⟨n', s', h1, rfl, h3⟩ := lp f (fun i t => t = s i) c N (fun i hi t ht n => by
    subst ht
    obtain ⟨n', h1, h2⟩ := h i hi n
    exact ⟨n', _, h1, rfl, h2⟩) _ rfl n (by omega)
  exact ⟨n' - 1, by omega, by rw [h3, Nat.sub_add_cancel (by omega)]⟩
theorem J_cong {a b : Int} (h : a = b) : J a = J b := h ▸ rfl
theorem J_le_t {a b : Int} (h : a ≤ b ∧ -2147483648 ≤ a ∧ b < 2147483648) : (J a ≤ J b) = True := by
  rw [J_le (by omega) (by omega)]; exact eq_true h.1
theorem J_le_f {a b : Int} (h : b < a ∧ -2147483648 ≤ b ∧ a < 2147483648) : (J a ≤ J b) = False := by
  rw [J_le (by omega) (by omega)]; exact eq_false (by omega)
theorem J_lt_t {a b : Int} (h : a < b ∧ -2147483648 ≤ a ∧ b < 2147483648) : (J a < J b) = True := by
  rw [J_lt (by omega) (by omega)]; exact eq_true h.1
theorem J_lt_f {a b : Int} (h : b ≤ a ∧ -2147483648 ≤ b ∧ a < 2147483648) : (J a < J b) = False := by
  rw [J_lt (by omega) (by omega)]; exact eq_false (by omega)
theorem J_eq_t {a b : Int} (h : a = b) : (J a = J b) = True := by
  rw [h]; exact eq_true rfl
theorem J_eq_f {a b : Int} (h : a ≠ b ∧ (-2147483648 ≤ a ∧ a < 2147483648) ∧ (-2147483648 ≤ b ∧ b < 2147483648)) : (J a = J b) = False := by
  rw [J_eq (by omega) (by omega)]; exact eq_false (by omega)
theorem J_ofNat (a : Nat) : J (a : Int) = Int32.ofNat a := by
  unfold J; exact Int32.ofInt_eq_ofNat
theorem tb_ofNat (a : Nat) : (Int32.ofNat a).toBitVec = BitVec.ofNat 32 a := rfl
theorem J_and (a b : Nat) : J (a : Int) &&& J (b : Int) = J ((a &&& b : Nat) : Int) := by
  rw [J_ofNat, J_ofNat, J_ofNat]
  apply Int32.toBitVec_inj.mp
  rw [Int32.toBitVec_and, tb_ofNat, tb_ofNat, tb_ofNat, BitVec.ofNat_and]
theorem J_or (a b : Nat) : J (a : Int) ||| J (b : Int) = J ((a ||| b : Nat) : Int) := by
  rw [J_ofNat, J_ofNat, J_ofNat]
  apply Int32.toBitVec_inj.mp
  rw [Int32.toBitVec_or, tb_ofNat, tb_ofNat, tb_ofNat, BitVec.ofNat_or]
theorem sh_amt {s : Nat} (hs : s < 32) : ((BitVec.ofNat 32 s).smod 32).toNat = s := by
  have h : ∀ s : Fin 32, ((BitVec.ofNat 32 s.val).smod 32).toNat = s.val := by decide
  exact h ⟨s, hs⟩
theorem J_shr {a s : Nat} (ha : a < 2147483648) (hs : s < 32) : J (a : Int) >>> J (s : Int) = J ((a >>> s : Nat) : Int) := by
  rw [J_ofNat, J_ofNat, J_ofNat]
  apply Int32.toBitVec_inj.mp
  rw [Int32.toBitVec_shiftRight, tb_ofNat, tb_ofNat, tb_ofNat]
  show BitVec.sshiftRight _ _ = _
  rw [sh_amt hs, BitVec.sshiftRight_eq_of_msb_false]
  · apply BitVec.eq_of_toNat_eq
    rw [BitVec.toNat_ushiftRight, BitVec.toNat_ofNat, BitVec.toNat_ofNat, Nat.mod_eq_of_lt (by omega)]
    rw [Nat.mod_eq_of_lt]
    exact Nat.lt_of_le_of_lt (Nat.shiftRight_le a s) (by omega)
  · rw [BitVec.msb_eq_decide, BitVec.toNat_ofNat, Nat.mod_eq_of_lt (by omega)]
    simp; omega
theorem J_shl {s : Nat} (hs : s < 32) : J ((1 : Nat) : Int) <<< J (s : Int) = J ((1 <<< s : Nat) : Int) := by
  rw [J_ofNat, J_ofNat, J_ofNat]
  apply Int32.toBitVec_inj.mp
  rw [Int32.toBitVec_shiftLeft, tb_ofNat, tb_ofNat, tb_ofNat]
  show BitVec.shiftLeft _ _ = _
  rw [sh_amt hs]
  apply BitVec.eq_of_toNat_eq
  show (BitVec.ofNat 32 1 <<< s).toNat = _
  rw [BitVec.toNat_shiftLeft, BitVec.toNat_ofNat, BitVec.toNat_ofNat]
theorem J_msk {s : Nat} (hs : s < 32) : J (s : Int) &&& J ((31 : Nat) : Int) = J (s : Int) := by
  rw [J_and]
  congr 2
  have h : ∀ s : Fin 32, s.val &&& 31 = s.val := by decide
  exact h ⟨s, hs⟩
theorem nat_and1 (a : Nat) : (a &&& 1 = 1) ↔ a.testBit 0 = true := by
  rw [Nat.and_one_is_mod, Nat.testBit_zero]; simp
theorem bit_iff {a s : Nat} (ha : a < 2147483648) (hs : s < 32) : (((J (a : Int) >>> (J (s : Int) &&& 31)) &&& 1) = 1) = (a.testBit s = true) := by
  rw [show (31 : Int32) = J ((31 : Nat) : Int) from rfl, show (1 : Int32) = J ((1 : Nat) : Int) from rfl, J_msk hs, J_shr ha hs, J_and, J_eq]
  · rw [show ((a >>> s &&& 1 : Nat) : Int) = ((1 : Nat) : Int) ↔ (a >>> s &&& 1 = 1) from Int.ofNat_inj, nat_and1, Nat.testBit_shiftRight]; simp
  · have : a >>> s &&& 1 ≤ 1 := Nat.and_le_right
    omega
  · omega
theorem bitJ {a s : Nat} (ha : a < 2147483648 ∧ s < 32) : (((J (a : Int) >>> (J (s : Int) &&& J 31)) &&& J 1) = J 1) = (a.testBit s = true) := bit_iff ha.1 ha.2
theorem bitJ2 {a s t : Nat} (ha : a < 2147483648 ∧ s < 32 ∧ t < 32) : (((J (a : Int) >>> (J (s : Int) &&& J 31)) &&& (J (a : Int) >>> (J (t : Int) &&& J 31)) &&& J 1) = J 1) = (a.testBit s = true ∧ a.testBit t = true) := by
  rw [show J 31 = J ((31 : Nat) : Int) from rfl, show J 1 = J ((1 : Nat) : Int) from rfl, J_msk ha.2.1, J_msk ha.2.2, J_shr ha.1 ha.2.1, J_shr ha.1 ha.2.2, J_and, J_and, J_eq]
  · rw [show (((a >>> s &&& a >>> t) &&& 1 : Nat) : Int) = ((1 : Nat) : Int) ↔ ((a >>> s &&& a >>> t) &&& 1 = 1) from Int.ofNat_inj, nat_and1, Nat.testBit_and, Nat.testBit_shiftRight, Nat.testBit_shiftRight]; simp
  · have : (a >>> s &&& a >>> t) &&& 1 ≤ 1 := Nat.and_le_right
    omega
  · omega
theorem shlJ {s : Nat} (hs : s < 32) : J 1 <<< (J (s : Int) &&& J 31) = J ((2 ^ s : Nat) : Int) := by
  rw [show J 31 = J ((31 : Nat) : Int) from rfl, show J 1 = J ((1 : Nat) : Int) from rfl, J_msk hs, J_shl hs, Nat.one_shiftLeft]
theorem and2 {a s : Nat} : (a &&& 2 ^ s = 2 ^ s) ↔ a.testBit s = true := by
  constructor
  · intro h
    have := congrArg (Nat.testBit · s) h
    simpa [Nat.testBit_and, Nat.testBit_two_pow] using this
  · intro h
    apply Nat.eq_of_testBit_eq
    intro i
    rw [Nat.testBit_and, Nat.testBit_two_pow]
    by_cases hi : s = i
    · subst hi; simp [h]
    · simp [hi]
theorem and3 {a s t : Nat} : (a &&& (2 ^ s ||| 2 ^ t) = (2 ^ s ||| 2 ^ t)) ↔ a.testBit s = true ∧ a.testBit t = true := by
  constructor
  · intro h
    have h1 := congrArg (Nat.testBit · s) h
    have h2 := congrArg (Nat.testBit · t) h
    simp [Nat.testBit_and, Nat.testBit_or, Nat.testBit_two_pow] at h1 h2
    exact ⟨h1, h2⟩
  · intro h
    apply Nat.eq_of_testBit_eq
    intro i
    rw [Nat.testBit_and, Nat.testBit_or, Nat.testBit_two_pow, Nat.testBit_two_pow]
    by_cases hi : s = i
    · subst hi; simp [h]
    · by_cases hj : t = i
      · subst hj; simp [h]
      · simp [hi, hj]
theorem pow_lt31 {s : Nat} (h : s < 31) : 2 ^ s < 2147483648 := by
  have : 2 ^ s < 2 ^ 31 := Nat.pow_lt_pow_right (by omega) h
  simpa using this
theorem ex_J (p : Int32) : ∃ a : Int, p = J a ∧ -2147483648 ≤ a ∧ a < 2147483648 := ⟨p.toInt, (J_of p).symm, Int32.le_toInt p, Int32.toInt_lt p⟩
theorem within_t (K : Nat) {a b : Int} (h : 0 ≤ a ∧ a < b ∧ b < 2147483648) : sp_within K (J a) (J b) = some (J 1) := by
  unfold sp_within
  simp (disch := omega) only [J_lit, J_add, J_sub, J_mul, J_neg, J_nat, J_inb, J_div, ↓reduceIte, Int.toNat_natCast, Option.bind_some, J_le, J_lt, J_eq, if_pos, if_neg, if_true, if_false]
theorem within_f (K : Nat) {a b : Int} (ha : -2147483648 ≤ a ∧ a < 2147483648) (hb : -2147483648 ≤ b ∧ b < 2147483648) (h : a < 0 ∨ b ≤ a) : sp_within K (J a) (J b) = some (J 0) := by
  unfold sp_within
  by_cases h0 : a < 0
  · simp (disch := omega) only [J_lit, J_add, J_sub, J_mul, J_neg, J_nat, J_inb, J_div, ↓reduceIte, Int.toNat_natCast, Option.bind_some, J_le, J_lt, J_eq, if_pos, if_neg, if_true, if_false]
  · simp (disch := omega) only [J_lit, J_add, J_sub, J_mul, J_neg, J_nat, J_inb, J_div, ↓reduceIte, Int.toNat_natCast, Option.bind_some, J_le, J_lt, J_eq, if_pos, if_neg, if_true, if_false]
theorem nb_t (K : Nat) {a b : Int} (h : 0 ≤ a ∧ a < b ∧ b < 2147483648) : sp_needBelow K (J a) (J b) = some (.inr ()) := by
  unfold sp_needBelow
  simp (disch := omega) only [within_t, J_lit, J_add, J_sub, J_mul, J_neg, J_nat, J_inb, J_div, ↓reduceIte, Int.toNat_natCast, Option.bind_some, J_le, J_lt, J_eq, if_pos, if_neg, if_true, if_false]
theorem nb_f (K : Nat) {a b : Int} (ha : -2147483648 ≤ a ∧ a < 2147483648) (hb : -2147483648 ≤ b ∧ b < 2147483648) (h : a < 0 ∨ b ≤ a) : sp_needBelow K (J a) (J b) = some (.inl 0) := by
  unfold sp_needBelow
  simp (disch := omega) only [within_f, J_lit, J_add, J_sub, J_mul, J_neg, J_nat, J_inb, J_div, ↓reduceIte, Int.toNat_natCast, Option.bind_some, J_le, J_lt, J_eq, if_pos, if_neg, if_true, if_false]
theorem ni_t (K : Nat) {a b : Int} (h : 0 ≤ a ∧ a < b ∧ b < 2147483648) : sp_needIndex K (J a) (J b) = some (.inr ()) := by
  unfold sp_needIndex
  simp (disch := omega) only [within_t, J_lit, J_add, J_sub, J_mul, J_neg, J_nat, J_inb, J_div, ↓reduceIte, Int.toNat_natCast, Option.bind_some, J_le, J_lt, J_eq, if_pos, if_neg, if_true, if_false]
theorem ni_f (K : Nat) {a b : Int} (ha : -2147483648 ≤ a ∧ a < 2147483648) (hb : -2147483648 ≤ b ∧ b < 2147483648) (h : a < 0 ∨ b ≤ a) : sp_needIndex K (J a) (J b) = some (.inl 2) := by
  unfold sp_needIndex
  simp (disch := omega) only [within_f, J_lit, J_add, J_sub, J_mul, J_neg, J_nat, J_inb, J_div, ↓reduceIte, Int.toNat_natCast, Option.bind_some, J_le, J_lt, J_eq, if_pos, if_neg, if_true, if_false]
theorem in_t (K : Nat) {a b c : Int} (ha : -2147483648 ≤ a ∧ a < 2147483648) (hb : -2147483648 ≤ b ∧ b < 2147483648) (hc : -2147483648 ≤ c ∧ c < 2147483648) (h : b ≤ a ∧ a ≤ c) : sp_M_in K (J a) (J b) (J c) = some (J 1) := by
  unfold sp_M_in
  simp (disch := omega) only [J_lit, J_add, J_sub, J_mul, J_neg, J_nat, J_inb, J_div, ↓reduceIte, Int.toNat_natCast, Option.bind_some, J_le, J_lt, J_eq, if_pos, if_neg, if_true, if_false]
theorem in_f (K : Nat) {a b c : Int} (ha : -2147483648 ≤ a ∧ a < 2147483648) (hb : -2147483648 ≤ b ∧ b < 2147483648) (hc : -2147483648 ≤ c ∧ c < 2147483648) (h : a < b ∨ c < a) : sp_M_in K (J a) (J b) (J c) = some (J 0) := by
  unfold sp_M_in
  by_cases h0 : a < b
  · simp (disch := omega) only [J_lit, J_add, J_sub, J_mul, J_neg, J_nat, J_inb, J_div, ↓reduceIte, Int.toNat_natCast, Option.bind_some, J_le, J_lt, J_eq, if_pos, if_neg, if_true, if_false]
  · simp (disch := omega) only [J_lit, J_add, J_sub, J_mul, J_neg, J_nat, J_inb, J_div, ↓reduceIte, Int.toNat_natCast, Option.bind_some, J_le, J_lt, J_eq, if_pos, if_neg, if_true, if_false]
theorem less_ (K : Nat) {a b : Int} (ha : -2147483648 ≤ a ∧ a < 2147483648) (hb : -2147483648 ≤ b ∧ b < 2147483648) : sp_M_less K (J a) (J b) = some (J (min a b)) := by
  unfold sp_M_less
  by_cases h0 : b ≤ a
  · simp (disch := omega) only [J_lit, J_add, J_sub, J_mul, J_neg, J_nat, J_inb, J_div, ↓reduceIte, Int.toNat_natCast, Option.bind_some, J_le, J_lt, J_eq, if_pos, if_neg, if_true, if_false]
    rw [Int.min_eq_right h0]
  · simp (disch := omega) only [J_lit, J_add, J_sub, J_mul, J_neg, J_nat, J_inb, J_div, ↓reduceIte, Int.toNat_natCast, Option.bind_some, J_le, J_lt, J_eq, if_pos, if_neg, if_true, if_false]
    rw [Int.min_eq_left (by omega)]
theorem bad_0 (K : Nat) (hK : 1 ≤ K) (w : Int32) : sp_M_bad K (J 0) w (J 0) = some (J 0, J 0) := by
  obtain ⟨m, rfl⟩ : ∃ m, K = m + 1 := ⟨K - 1, by omega⟩
  simp [sp_M_bad, f_M_bad, J]
theorem bad_1 (K : Nat) (hK : 1 ≤ K) {w : Int} (hw : 0 < w ∧ w < 100) : sp_M_bad K (J 1) (J w) (J 0) = some (J 1, J w) := by
  obtain ⟨m, rfl⟩ : ∃ m, K = m + 1 := ⟨K - 1, by omega⟩
  unfold sp_M_bad
  simp (disch := omega) only [f_M_bad, J_lit, J_add, J_sub, J_mul, J_neg, J_nat, J_inb, J_div, ↓reduceIte, Int.toNat_natCast, Option.bind_some, J_le, J_lt, J_eq, if_pos, if_neg, if_true, if_false]
def AA (k : Int32) (o : Nat → Int64) (b thr : Int32) : Prop := thr = k ∧ (k = 0 → o 0 = b.toInt64)
theorem AA_0 (o : Nat → Int64) (b : Int32) : AA (J 0) (vp_updL o 0 b.toInt64) b (J 0) := ⟨rfl, fun _ => rfl⟩
theorem AA_e (o : Nat → Int64) (b : Int32) {k : Int} (h : 0 < k ∧ k < 100) : AA (J k) o b (J k) := ⟨rfl, fun e => absurd e (by simp (disch := omega) only [J_lit, J_add, J_sub, J_mul, J_neg, J_nat, J_inb, J_div, ↓reduceIte, Int.toNat_natCast, Option.bind_some, J_le, J_lt, J_eq, if_pos, if_neg, if_true, if_false]; omega)⟩
theorem inb01 : inb (0 : Int32) 1 := by decide
theorem lt10 : ((1 : Int32) = 0) = False := by decide
theorem lt20 : ((2 : Int32) = 0) = False := by decide
theorem lt00 : ((0 : Int32) = 0) = True := by decide
theorem lj00 : (J 0 = 0) = True := by decide
theorem lj10 : (J 1 = 0) = False := by decide
theorem lj20 : (J 2 = 0) = False := by decide
theorem lbad0 (K : Nat) (hK : 1000 ≤ K) (w : Int32) : sp_M_bad K 0 w 0 = some (0, 0) := bad_0 K (by omega) w
theorem lbad1 (K : Nat) (hK : 1000 ≤ K) : sp_M_bad K 1 1 0 = some (1, 1) := bad_1 K (by omega) (w := 1) (by omega)
theorem lbad2 (K : Nat) (hK : 1000 ≤ K) : sp_M_bad K 1 2 0 = some (1, 2) := bad_1 K (by omega) (w := 2) (by omega)
theorem L_lit (n : Nat) : (OfNat.ofNat n : Int64) = L (OfNat.ofNat n) := by
  unfold L; exact (Int64.ofInt_eq_ofNat (n := n)).symm
theorem L_add (a b : Int) : L a + L b = L (a + b) := (Int64.ofInt_add a b).symm
theorem L_sub (a b : Int) : L a - L b = L (a - b) := (Int64.ofInt_sub a b).symm
theorem L_mul (a b : Int) : L a * L b = L (a * b) := (Int64.ofInt_mul a b).symm
theorem L_toInt {a : Int} (h : -9223372036854775808 ≤ a) (h2 : a < 9223372036854775808) : (L a).toInt = a := Int64.toInt_ofInt_of_le h h2
theorem L_of (x : Int64) : L x.toInt = x := Int64.ofInt_toInt x
theorem L_lt {a b : Int} (ha : -9223372036854775808 ≤ a ∧ a < 9223372036854775808) (hb : -9223372036854775808 ≤ b ∧ b < 9223372036854775808) : (L a < L b) = (a < b) := by
  rw [Int64.lt_iff_toInt_lt, L_toInt ha.1 ha.2, L_toInt hb.1 hb.2]
theorem L_eq {a b : Int} (ha : -9223372036854775808 ≤ a ∧ a < 9223372036854775808) (hb : -9223372036854775808 ≤ b ∧ b < 9223372036854775808) : (L a = L b) = (a = b) := by
  rw [← Int64.toInt_inj, L_toInt ha.1 ha.2, L_toInt hb.1 hb.2]
theorem L_div {a b : Int} (ha : 0 ≤ a ∧ a < 9223372036854775808) (hb : 0 < b ∧ b < 9223372036854775808) : L a / L b = L (a / b) := by
  rw [← L_of (L a / L b), Int64.toInt_div, L_toInt (by omega) ha.2, L_toInt (by omega) hb.2, Int.tdiv_eq_ediv_of_nonneg ha.1]
  congr 1
  have h1 : a / b ≤ a := Int.ediv_le_self b ha.1
  have h2 : 0 ≤ a / b := Int.ediv_nonneg ha.1 (by omega)
  exact Int.bmod_eq_of_le (by omega) (by omega)
theorem JL {a : Int} (h : -2147483648 ≤ a ∧ a < 2147483648) : (J a).toInt64 = L a := by
  rw [← Int64.toInt_inj, Int32.toInt_toInt64, J_toInt h.1 h.2, L_toInt (by omega) (by omega)]
theorem LJ (a : Int) : (L a).toInt32 = J a := by
  unfold L J; exact Int64.toInt32_ofInt
theorem lg_ {a b : Int} (ha : -9223372036854775808 ≤ a ∧ a < 9223372036854775808) (hb : -9223372036854775808 ≤ b ∧ b < 9223372036854775808) : lg_cmp (L a) (L b) = J (if b < a then 1 else if a = b then 0 else -1) := by
  unfold lg_cmp
  simp only [gt_iff_lt, L_lt hb ha, L_eq ha hb]
  by_cases h1 : b < a
  · rw [if_pos h1, if_pos h1]; rfl
  · rw [if_neg h1, if_neg h1]
    by_cases h2 : a = b
    · rw [if_pos h2, if_pos h2]; rfl
    · rw [if_neg h2, if_neg h2]; rfl
theorem AA_L (o : Nat → Int64) {a : Int} (h : -2147483648 ≤ a ∧ a < 2147483648) : AA (J 0) (vp_updL o 0 (L a)) (J a) (J 0) := by
  rw [← JL h]; exact AA_0 o (J a)
theorem L_lt_t {a b : Int} (h : a < b ∧ -9223372036854775808 ≤ a ∧ b < 9223372036854775808) : (L a < L b) = True := by
  rw [L_lt (by omega) (by omega)]; exact eq_true h.1
theorem L_lt_f {a b : Int} (h : b ≤ a ∧ -9223372036854775808 ≤ b ∧ a < 9223372036854775808) : (L a < L b) = False := by
  rw [L_lt (by omega) (by omega)]; exact eq_false (by omega)
theorem L_eq_t {a b : Int} (h : a = b) : (L a = L b) = True := by
  rw [h]; exact eq_true rfl
theorem L_eq_f {a b : Int} (h : a ≠ b ∧ (-9223372036854775808 ≤ a ∧ a < 9223372036854775808) ∧ (-9223372036854775808 ≤ b ∧ b < 9223372036854775808)) : (L a = L b) = False := by
  rw [L_eq (by omega) (by omega)]; exact eq_false (by omega)
theorem lg_gt {a b : Int} (h : b < a ∧ -9223372036854775808 ≤ b ∧ a < 9223372036854775808) : lg_cmp (L a) (L b) = J 1 := by
  rw [lg_ (by omega) (by omega), if_pos h.1]
theorem lg_eq {a b : Int} (h : a = b ∧ -9223372036854775808 ≤ b ∧ a < 9223372036854775808) : lg_cmp (L a) (L b) = J 0 := by
  rw [lg_ (by omega) (by omega), if_neg (by omega), if_pos h.1]
theorem lg_lt {a b : Int} (h : a < b ∧ -9223372036854775808 ≤ a ∧ b < 9223372036854775808) : lg_cmp (L a) (L b) = J (-1) := by
  rw [lg_ (by omega) (by omega), if_neg (by omega), if_neg (by omega)]
def cnt (p : Nat → Bool) : Nat → Int
  | 0 => 0
  | n + 1 => cnt p n + if p n then 1 else 0
set_option maxHeartbeats 2000000 in
theorem cnt_le (p : Nat → Bool) : ∀ n, 0 ≤ cnt p n ∧ cnt p n ≤ n
  | 0 => by simp [cnt]
  | n + 1 => by
    have := cnt_le p n
    unfold cnt; split <;> omega
set_option maxHeartbeats 2000000 in
theorem cnt_cong {p q : Nat → Bool} : ∀ {n}, (∀ i, i < n → p i = q i) → cnt p n = cnt q n
  | 0, _ => rfl
  | n + 1, h => by unfold cnt; rw [cnt_cong (n := n) (fun i hi => h i (by omega)), h n (by omega)]
set_option maxHeartbeats 2000000 in
theorem p_Seats_having (K : Nat) (w : Int32) (A : Nat → Int32) (p : Nat → Bool) (n : Nat) (hn : n ≤ 40) (hK : 1000 ≤ K) (hp : ∀ i, i < n → (A i &&& w = w) = (p i = true)) : sp_Seats_having K w A (J n) = some (J (cnt p n)) := by
  obtain ⟨m, h1, h3⟩ := lpe (fun k s => f_Seats_having K A (J n) k 0 s) (fun i => (w, J (cnt p i), J i)) 2 n (by
    intro i hi m
    simp (disch := omega) only [f_Seats_having, hp, J_lit, J_add, J_sub, J_mul, J_neg, J_nat, J_inb, J_div, ↓reduceIte, Int.toNat_natCast, Option.bind_some, J_le_t, J_le_f, J_lt_t, J_lt_f, J_eq_t, J_eq_f, L_lit, L_add, L_sub, L_mul, L_div, JL, LJ, Int.reduceToNat, Int.toNat_zero, Int.toNat_one, xb, xm, within_t, within_f, nb_t, nb_f, ni_t, ni_f, in_t, in_f, less_, bad_0, bad_1, not_true_eq_false, not_false_eq_true, L_lt_t, L_lt_f, L_eq_t, L_eq_f, lg_gt, lg_eq, lg_lt]
    cases hb : p i
    · exact ⟨m, by omega, by simp [cnt, hb]⟩
    · exact ⟨m, by omega, by simp [cnt, hb]⟩) K (by omega)
  refine h3.trans ?_
  simp (disch := omega) only [f_Seats_having, J_lit, J_add, J_sub, J_mul, J_neg, J_nat, J_inb, J_div, ↓reduceIte, Int.toNat_natCast, Option.bind_some, J_le_t, J_le_f, J_lt_t, J_lt_f, J_eq_t, J_eq_f, L_lit, L_add, L_sub, L_mul, L_div, JL, LJ, Int.reduceToNat, Int.toNat_zero, Int.toNat_one, xb, xm, within_t, within_f, nb_t, nb_f, ni_t, ni_f, in_t, in_f, less_, bad_0, bad_1, not_true_eq_false, not_false_eq_true, L_lt_t, L_lt_f, L_eq_t, L_eq_f, lg_gt, lg_eq, lg_lt]
set_option maxHeartbeats 2000000 in
theorem p_M_onSeats (K : Nat) (s t : Nat) (hs : s < 10) (ht : t < 10) (A : Nat → Int32) (v : Nat → Nat) (n : Nat) (hn : n ≤ 40) (hv : ∀ i, i < n → v i < 1024) (hA : ∀ i, i < n → A i = J (v i)) (hK : 1000 ≤ K) : sp_M_onSeats K (J s) (J t) (J n) A = some (J (cnt (fun i => (v i).testBit s && (v i).testBit t) n)) := by
  obtain ⟨m, h1, h3⟩ := lpe (fun k x => f_M_onSeats K (J n) A k 0 x) (fun i => (J s, J t, J (cnt (fun i => (v i).testBit s && (v i).testBit t) i), J i, J 0, J 0)) 2 n (by
    intro i hi m
    have := hv i hi
    simp (disch := omega) only [f_M_onSeats, hA, bitJ2, J_lit, J_add, J_sub, J_mul, J_neg, J_nat, J_inb, J_div, ↓reduceIte, Int.toNat_natCast, Option.bind_some, J_le_t, J_le_f, J_lt_t, J_lt_f, J_eq_t, J_eq_f, L_lit, L_add, L_sub, L_mul, L_div, JL, LJ, Int.reduceToNat, Int.toNat_zero, Int.toNat_one, xb, xm, within_t, within_f, nb_t, nb_f, ni_t, ni_f, in_t, in_f, less_, bad_0, bad_1, not_true_eq_false, not_false_eq_true, L_lt_t, L_lt_f, L_eq_t, L_eq_f, lg_gt, lg_eq, lg_lt]
    cases hb : (v i).testBit s <;> cases hc : (v i).testBit t <;> exact ⟨m, by omega, by simp [cnt, hb, hc]⟩) K (by omega)
  refine h3.trans ?_
  simp (disch := omega) only [f_M_onSeats, J_lit, J_add, J_sub, J_mul, J_neg, J_nat, J_inb, J_div, ↓reduceIte, Int.toNat_natCast, Option.bind_some, J_le_t, J_le_f, J_lt_t, J_lt_f, J_eq_t, J_eq_f, L_lit, L_add, L_sub, L_mul, L_div, JL, LJ, Int.reduceToNat, Int.toNat_zero, Int.toNat_one, xb, xm, within_t, within_f, nb_t, nb_f, ni_t, ni_f, in_t, in_f, less_, bad_0, bad_1, not_true_eq_false, not_false_eq_true, L_lt_t, L_lt_f, L_eq_t, L_eq_f, lg_gt, lg_eq, lg_lt]
def RSeats (cs : Nat → Int32) (cn : Int32) (ms : Nat → Int32) (mn : Int32) : Prop := ∃ (n : Nat) (v : Nat → Nat), n ≤ 40 ∧ cn = J n ∧ mn = J n ∧ (∀ i, i < n → v i < 1024) ∧ (∀ i, i < n → cs i = J (v i)) ∧ ∀ i, i < n → ms i = J (v i)
set_option maxHeartbeats 2000000 in
theorem having1 (K : Nat) (hK : 1000 ≤ K) (s : Nat) (hs : s < 10) (n : Nat) (hn : n ≤ 40) (A : Nat → Int32) (v : Nat → Nat) (hv : ∀ i, i < n → v i < 1024) (hA : ∀ i, i < n → A i = J (v i)) : sp_Seats_having K (J ((2 ^ s : Nat) : Int)) A (J n) = some (J (cnt (fun i => (v i).testBit s) n)) := by
  refine p_Seats_having K _ A _ n hn hK (fun i hi => ?_)
  have h1 := hv i hi
  have h2 := pow_lt31 (s := s) (by omega)
  have h3 : v i &&& 2 ^ s ≤ v i := Nat.and_le_left
  have h4 := and2 (a := v i) (s := s)
  revert h2 h3 h4
  generalize 2 ^ s = w
  intro h2 h3 h4
  rw [hA i hi, J_and, J_eq (by omega) (by omega), show (((v i &&& w : Nat) : Int) = (w : Int)) = (v i &&& w = w) from propext Int.ofNat_inj]
  exact propext h4
set_option maxHeartbeats 2000000 in
theorem having2 (K : Nat) (hK : 1000 ≤ K) (s t : Nat) (hs : s < 10) (ht : t < 10) (n : Nat) (hn : n ≤ 40) (A : Nat → Int32) (v : Nat → Nat) (hv : ∀ i, i < n → v i < 1024) (hA : ∀ i, i < n → A i = J (v i)) : sp_Seats_having K (J ((2 ^ s ||| 2 ^ t : Nat) : Int)) A (J n) = some (J (cnt (fun i => (v i).testBit s && (v i).testBit t) n)) := by
  refine p_Seats_having K _ A _ n hn hK (fun i hi => ?_)
  have h1 := hv i hi
  have h2 : 2 ^ s ||| 2 ^ t < 2 ^ 10 := Nat.or_lt_two_pow (Nat.pow_lt_pow_right (by omega) hs) (Nat.pow_lt_pow_right (by omega) ht)
  have h3 : v i &&& (2 ^ s ||| 2 ^ t) ≤ v i := Nat.and_le_left
  rw [hA i hi, J_and, J_eq (by omega) (by omega), show (((v i &&& (2 ^ s ||| 2 ^ t) : Nat) : Int) = ((2 ^ s ||| 2 ^ t : Nat) : Int)) = (v i &&& (2 ^ s ||| 2 ^ t) = 2 ^ s ||| 2 ^ t) from propext Int.ofNat_inj, propext and3, Bool.and_eq_true]
set_option maxHeartbeats 2000000 in
theorem pc_share (K : Nat) (hK : 1000 ≤ K) (p1 thr : Int32) {cs : Nat → Int32} {cn : Int32} {ms : Nat → Int32} {mn : Int32} (R : RSeats cs cn ms mn) (o : Nat → Int64) : ∃ oc om, sp_W_share K p1 cs cn o = some oc ∧ sp_M_share K p1 thr mn ms = some om ∧ AA oc.1 oc.2 om.1 om.2 := by
  obtain ⟨n, v, hn, rfl, rfl, hv, h1, h2⟩ := R
  obtain ⟨a, rfl, ha⟩ := ex_J p1
  obtain ⟨k, rfl⟩ : ∃ k, K = k + 10 := ⟨K - 10, by omega⟩
  by_cases h : 0 ≤ a ∧ a < 10
  · obtain ⟨s, rfl⟩ : ∃ s : Nat, a = s := ⟨a.toNat, by omega⟩
    have e1 := having1 (k + 10) hK s (by omega) n hn cs v hv h1
    have e2 := p_M_onSeats (k + 10) s s (by omega) (by omega) ms v n hn hv h2 hK
    simp only [Bool.and_self] at e2
    refine ⟨_, _, by simp (disch := omega) only [sp_W_share, sp_share, shlJ, e1, J_lit, J_add, J_sub, J_mul, J_neg, J_nat, J_inb, J_div, ↓reduceIte, Int.toNat_natCast, Option.bind_some, J_le_t, J_le_f, J_lt_t, J_lt_f, J_eq_t, J_eq_f, L_lit, L_add, L_sub, L_mul, L_div, JL, LJ, Int.reduceToNat, Int.toNat_zero, Int.toNat_one, xb, xm, within_t, within_f, nb_t, nb_f, ni_t, ni_f, in_t, in_f, less_, bad_0, bad_1, not_true_eq_false, not_false_eq_true, L_lt_t, L_lt_f, L_eq_t, L_eq_f, lg_gt, lg_eq, lg_lt]; rfl, by simp (disch := omega) only [sp_M_share, f_M_share, e2, J_lit, J_add, J_sub, J_mul, J_neg, J_nat, J_inb, J_div, ↓reduceIte, Int.toNat_natCast, Option.bind_some, J_le_t, J_le_f, J_lt_t, J_lt_f, J_eq_t, J_eq_f, L_lit, L_add, L_sub, L_mul, L_div, JL, LJ, Int.reduceToNat, Int.toNat_zero, Int.toNat_one, xb, xm, within_t, within_f, nb_t, nb_f, ni_t, ni_f, in_t, in_f, less_, bad_0, bad_1, not_true_eq_false, not_false_eq_true, L_lt_t, L_lt_f, L_eq_t, L_eq_f, lg_gt, lg_eq, lg_lt]; rfl, ?_⟩
    exact AA_0 _ _
  · refine ⟨_, _, by simp (disch := omega) only [sp_W_share, sp_share, J_lit, J_add, J_sub, J_mul, J_neg, J_nat, J_inb, J_div, ↓reduceIte, Int.toNat_natCast, Option.bind_some, J_le_t, J_le_f, J_lt_t, J_lt_f, J_eq_t, J_eq_f, L_lit, L_add, L_sub, L_mul, L_div, JL, LJ, Int.reduceToNat, Int.toNat_zero, Int.toNat_one, xb, xm, within_t, within_f, nb_t, nb_f, ni_t, ni_f, in_t, in_f, less_, bad_0, bad_1, not_true_eq_false, not_false_eq_true, L_lt_t, L_lt_f, L_eq_t, L_eq_f, lg_gt, lg_eq, lg_lt]; rfl, by simp (disch := omega) only [sp_M_share, f_M_share, J_lit, J_add, J_sub, J_mul, J_neg, J_nat, J_inb, J_div, ↓reduceIte, Int.toNat_natCast, Option.bind_some, J_le_t, J_le_f, J_lt_t, J_lt_f, J_eq_t, J_eq_f, L_lit, L_add, L_sub, L_mul, L_div, JL, LJ, Int.reduceToNat, Int.toNat_zero, Int.toNat_one, xb, xm, within_t, within_f, nb_t, nb_f, ni_t, ni_f, in_t, in_f, less_, bad_0, bad_1, not_true_eq_false, not_false_eq_true, L_lt_t, L_lt_f, L_eq_t, L_eq_f, lg_gt, lg_eq, lg_lt]; rfl, ?_⟩
    exact AA_e _ _ (by omega)
