/-! what stands at the law's entry: the classes' numbers, the old things -/
section PR
variable {args : Array Value} {s : State}
theorem ra_p {t : FieldType} (hno : ∀ C : String, t ≠ .object C) (h : (Cond.arrayClass t).before args s = true) : ∃ cA : ClassId, ArrOfT s cA t ∧ va_RA s cA t := by
  obtain ⟨c, k, comp, h1, h2, h3⟩ := Cond.arrayClass_spec h
  refine ⟨c, fun n z => ⟨(fun k h => by cases h), k, h2, comp, h3⟩, ?_⟩
  cases t with
  | object C => exact absurd rfl (hno C)
  | _ => exact h1
theorem ra_o {C : String} (h : (Cond.arrayOver (.object C)).before args s = true) : ∃ cA : ClassId, ArrOfT s cA (.object C) ∧ va_RA s cA (.object C) := by
  obtain ⟨comp, c, k, h1, h2, h3, h4, h5⟩ := Cond.arrayOver_spec h
  exact ⟨c, fun n z => ⟨(fun k h => by cases h), k, h3, comp, h4⟩, k, comp, h3, h4, h1, h5⟩
theorem ra_a {t : FieldType} (h : (Cond.arrayOver (.array t)).before args s = true) : ∃ cA : ClassId, ArrOfT s cA (.array t) ∧ va_RA s cA (.array t) := by
  simp only [Cond.before, Cond.holds, Cond.value, beq_iff_eq] at h
  cases hc : s.vm.findClass (FieldType.array t).toString with
  | none => simp [hc] at h
  | some comp =>
    simp only [hc, Option.bind_some, Option.bind_eq_some_iff, Option.map_eq_some_iff] at h
    obtain ⟨c, hi, k, hk, hb⟩ := h
    cases hkind : k.kind with
    | array component ty =>
      rw [hkind] at hb
      simp at hb
      exact ⟨c, fun n z => ⟨(fun k h => by cases h), k, hk, component, by rw [hkind, hb.1]⟩, hb.2⟩
    | _ => rw [hkind] at hb; simp at hb
theorem kn_all (ok : ∀ w ∈ GT, w.before args s = true) : ∃ D : va_G, ∀ (c : Nat) (q : vw_C), vwCl[c]? = some q → u_Kn s q.1 q.2.1 q.2.2 (D.1 c) (D.2 c) := by
  have h0 : ∀ c : Nat, ∃ x : ClassId × (Nat → Nat), ∀ q : vw_C, vwCl[c]? = some q → u_Kn s q.1 q.2.1 q.2.2 x.1 x.2 := by
    intro c
    match c with
    | 0 =>
      obtain ⟨a, b, h⟩ := u_known (C := RX0) (T := TX0) (N := 5) (n := 5) ok uw_X0 (ok _ (gt_mem (tb2 (List.mem_of_getElem? (i := 16) rfl)) rfl))
      exact ⟨(a, b), fun q hq => by cases hq; exact h⟩
    | 1 =>
      obtain ⟨a, b, h⟩ := u_known (C := RX1) (T := TX1) (N := 2) (n := 2) ok uw_X1 (ok _ (gt_mem (tb2 (List.mem_of_getElem? (i := 22) rfl)) rfl))
      exact ⟨(a, b), fun q hq => by cases hq; exact h⟩
    | 2 =>
      obtain ⟨a, b, h⟩ := u_known (C := RX2) (T := TX2) (N := 3) (n := 3) ok uw_X2 (ok _ (gt_mem (tb1 (List.mem_of_getElem? (i := 147) rfl)) rfl))
      exact ⟨(a, b), fun q hq => by cases hq; exact h⟩
    | 3 =>
      obtain ⟨a, b, h⟩ := u_known (C := RX3) (T := TX3) (N := 5) (n := 5) ok uw_X3 (ok _ (gt_mem (tb1 (List.mem_of_getElem? (i := 153) rfl)) rfl))
      exact ⟨(a, b), fun q hq => by cases hq; exact h⟩
    | 4 =>
      obtain ⟨a, b, h⟩ := u_known (C := RX4) (T := TX4) (N := 2) (n := 2) ok uw_X4 (ok _ (gt_mem (tb2 (List.mem_of_getElem? (i := 28) rfl)) rfl))
      exact ⟨(a, b), fun q hq => by cases hq; exact h⟩
    | 5 =>
      obtain ⟨a, b, h⟩ := u_known (C := RX5) (T := TX5) (N := 8) (n := 8) ok uw_X5 (ok _ (gt_mem (tb1 (List.mem_of_getElem? (i := 69) rfl)) rfl))
      exact ⟨(a, b), fun q hq => by cases hq; exact h⟩
    | 6 =>
      obtain ⟨a, b, h⟩ := u_known (C := RX6) (T := TX6) (N := 7) (n := 7) ok uw_X6 (ok _ (gt_mem (tb1 (List.mem_of_getElem? (i := 228) rfl)) rfl))
      exact ⟨(a, b), fun q hq => by cases hq; exact h⟩
    | 7 =>
      obtain ⟨a, b, h⟩ := u_known (C := RX7) (T := TX7) (N := 2) (n := 2) ok uw_X7 (ok _ (gt_mem (tb1 (List.mem_of_getElem? (i := 180) rfl)) rfl))
      exact ⟨(a, b), fun q hq => by cases hq; exact h⟩
    | 8 =>
      obtain ⟨a, b, h⟩ := u_known (C := RX8) (T := TX8) (N := 4) (n := 4) ok uw_X8 (ok _ (gt_mem (tb1 (List.mem_of_getElem? (i := 194) rfl)) rfl))
      exact ⟨(a, b), fun q hq => by cases hq; exact h⟩
    | 9 =>
      obtain ⟨a, b, h⟩ := u_known (C := RX9) (T := TX9) (N := 5) (n := 5) ok uw_X9 (ok _ (gt_mem (tb1 (List.mem_of_getElem? (i := 115) rfl)) rfl))
      exact ⟨(a, b), fun q hq => by cases hq; exact h⟩
    | 10 =>
      obtain ⟨a, b, h⟩ := u_known (C := RX10) (T := TX10) (N := 7) (n := 7) ok uw_X10 (ok _ (gt_mem (tb1 (List.mem_of_getElem? (i := 36) rfl)) rfl))
      exact ⟨(a, b), fun q hq => by cases hq; exact h⟩
    | 11 =>
      obtain ⟨a, b, h⟩ := u_known (C := RX11) (T := TX11) (N := 14) (n := 14) ok uw_X11 (ok _ (gt_mem (tb1 (List.mem_of_getElem? (i := 28) rfl)) rfl))
      exact ⟨(a, b), fun q hq => by cases hq; exact h⟩
    | 12 =>
      obtain ⟨a, b, h⟩ := u_known (C := RX12) (T := TX12) (N := 50) (n := 50) ok uw_X12 (ok _ (gt_mem (tb5 (List.mem_of_getElem? (i := 198) rfl)) rfl))
      exact ⟨(a, b), fun q hq => by cases hq; exact h⟩
    | c + 13 => exact ⟨(0, fun _ => 0), fun q hq => by simp [vwCl] at hq⟩
  obtain ⟨f, hf⟩ := Classical.axiomOfChoice h0
  exact ⟨(fun c => (f c).1, fun c => (f c).2), fun c q hq => hf c q hq⟩
theorem ka_all (hts : ∀ w ∈ lw_tbl, w.before args s = true) : KA s := ⟨hts _ (List.mem_append_right _ (tb1 (List.mem_of_getElem? (i := 114) rfl))), hts _ (List.mem_append_right _ (tb1 (List.mem_of_getElem? (i := 226) rfl))), hts _ (List.mem_append_right _ (tb5 (List.mem_of_getElem? (i := 204) rfl)))⟩
theorem kt_all (hts : ∀ w ∈ lw_tbl, w.before args s = true) : ∃ (D : va_G) (cy : Nat → ClassId), Kt D cy s := by
  obtain ⟨D, hD⟩ := kn_all (args := args) (s := s) (fun w h => hts w (List.mem_filter.mp h).1)
  obtain ⟨a0, h0⟩ := ra_p (t := .byte) (fun C h => by cases h) (hts _ (List.mem_append_right _ (tb1 (List.mem_of_getElem? (i := 67) rfl))))
  obtain ⟨a1, h1⟩ := ra_p (t := .int) (fun C h => by cases h) (hts _ (List.mem_append_right _ (tb1 (List.mem_of_getElem? (i := 112) rfl))))
  obtain ⟨a2, h2⟩ := ra_o (C := RX2) (hts _ (List.mem_append_right _ (tb1 (List.mem_of_getElem? (i := 226) rfl))))
  obtain ⟨a3, h3⟩ := ra_o (C := RX9) (hts _ (List.mem_append_right _ (tb1 (List.mem_of_getElem? (i := 114) rfl))))
  obtain ⟨a4, h4⟩ := ra_a (t := .int) (hts _ (List.mem_append_right _ (tb5 (List.mem_of_getElem? (i := 204) rfl))))
  obtain ⟨a5, h5⟩ := ra_p (t := .long) (fun C h => by cases h) (hts _ (List.mem_append_right _ (tb7 (List.mem_of_getElem? (i := 204) rfl))))
  refine ⟨D, fun i => [a0, a1, a2, a3, a4, a5].getD i a0, ⟨hD, fun k q hq => ?_⟩, fun a i x h hm => va_Nw.of rfl (hts _ (List.mem_append_right _ hm))⟩
  match k, hq with
  | 0, hq => cases hq; exact h0
  | 1, hq => cases hq; exact h1
  | 2, hq => cases hq; exact h2
  | 3, hq => cases hq; exact h3
  | 4, hq => cases hq; exact h4
  | 5, hq => cases hq; exact h5
  | k + 6, hq => simp [TY] at hq
/-- one string constant -/
theorem st_one {A : Nat → Prop} {tm : Term} {n : Nat} {bs : List Int32} (hn : n < 2 ^ 31) (hex : (Cond.exactly tm "java/lang/String").before args s = true) (hco : (Cond.eq (.field tm "java/lang/String" "coder" "B") (.int 0)).before args s = true) (har : (Cond.arrayOf (.field tm "java/lang/String" "value" "[B") .byte).before args s = true) (hle : (Cond.eq (.length (.field tm "java/lang/String" "value" "[B")) (.int (Int32.ofNat n))).before args s = true) (hel : ∀ j : Nat, j < n → (Cond.eq (.elem (.field tm "java/lang/String" "value" "[B") (.int (Int32.ofNat j))) (.int (bs.getD j 0))).before args s = true) (hA : ∀ a : Nat, a < s.heap.size → ¬ A a) : ∃ a v : Nat, tm.eval args s none [] s = some (.ref a) ∧ vk_S 1 [n] [bs] (fun _ => a) (fun _ => v) A s s.heap := by
  have z : ∀ i : Nat, i < 1 → i = 0 := fun i h => by omega
  obtain ⟨f, g, h1, h2⟩ := vk_Sof (args := args) (s := s) (N := 1) (tm := fun _ => tm) (len := [n]) (byt := [bs]) (A := A) (fun i hi => by rw [z i hi]; exact hn) (fun i hi => hex) (fun i hi => hco) (fun i hi => har) (fun i hi => by rw [z i hi]; exact hle) (fun i hi j hj => by rw [z i hi] at hj ⊢; exact hel j hj) (fun i j hi hj h => by omega) hA
  exact ⟨f 0, g 0, h2 0 Nat.zero_lt_one, fun i hi => by rw [z i hi]; exact h1.1 0 Nat.zero_lt_one, fun i j hi hj _ => by omega⟩
abbrev GV : List Cond := flatC (Jvm.Cond.and given_1 narrow_1)
theorem sc_0 {A : Nat → Prop} (hs : ∀ w ∈ GV, w.before args s = true) (hA : ∀ a : Nat, a < s.heap.size → ¬ A a) : ∃ a v : Nat, (Term.string "WoolThreads$Law" 88).eval args s none [] s = some (.ref a) ∧ vk_S 1 [4] [[115, 104, 101, 100]] (fun _ => a) (fun _ => v) A s s.heap :=
  st_one (by decide) (hs _ (by decide +kernel)) (hs _ (by decide +kernel)) (hs _ (by decide +kernel)) (hs _ (by decide +kernel)) (fun j hj => match j, hj with | 0, _ => hs _ (by decide +kernel) | 1, _ => hs _ (by decide +kernel) | 2, _ => hs _ (by decide +kernel) | 3, _ => hs _ (by decide +kernel) | j + 4, h => absurd h (by omega)) hA
theorem sc_1 {A : Nat → Prop} (hs : ∀ w ∈ GV, w.before args s = true) (hA : ∀ a : Nat, a < s.heap.size → ¬ A a) : ∃ a v : Nat, (Term.string "WoolThreads$Law" 93).eval args s none [] s = some (.ref a) ∧ vk_S 1 [4] [[104, 111, 108, 100]] (fun _ => a) (fun _ => v) A s s.heap :=
  st_one (by decide) (hs _ (by decide +kernel)) (hs _ (by decide +kernel)) (hs _ (by decide +kernel)) (hs _ (by decide +kernel)) (fun j hj => match j, hj with | 0, _ => hs _ (by decide +kernel) | 1, _ => hs _ (by decide +kernel) | 2, _ => hs _ (by decide +kernel) | 3, _ => hs _ (by decide +kernel) | j + 4, h => absurd h (by omega)) hA
theorem sc_2 {A : Nat → Prop} (hs : ∀ w ∈ GV, w.before args s = true) (hA : ∀ a : Nat, a < s.heap.size → ¬ A a) : ∃ a v : Nat, (Term.string "WoolThreads$Law" 94).eval args s none [] s = some (.ref a) ∧ vk_S 1 [4] [[119, 97, 115, 104]] (fun _ => a) (fun _ => v) A s s.heap :=
  st_one (by decide) (hs _ (by decide +kernel)) (hs _ (by decide +kernel)) (hs _ (by decide +kernel)) (hs _ (by decide +kernel)) (fun j hj => match j, hj with | 0, _ => hs _ (by decide +kernel) | 1, _ => hs _ (by decide +kernel) | 2, _ => hs _ (by decide +kernel) | 3, _ => hs _ (by decide +kernel) | j + 4, h => absurd h (by omega)) hA
theorem sc_3 {A : Nat → Prop} (hs : ∀ w ∈ GV, w.before args s = true) (hA : ∀ a : Nat, a < s.heap.size → ¬ A a) : ∃ a v : Nat, (Term.string "WoolThreads$Law" 95).eval args s none [] s = some (.ref a) ∧ vk_S 1 [4] [[112, 97, 115, 115]] (fun _ => a) (fun _ => v) A s s.heap :=
  st_one (by decide) (hs _ (by decide +kernel)) (hs _ (by decide +kernel)) (hs _ (by decide +kernel)) (hs _ (by decide +kernel)) (fun j hj => match j, hj with | 0, _ => hs _ (by decide +kernel) | 1, _ => hs _ (by decide +kernel) | 2, _ => hs _ (by decide +kernel) | 3, _ => hs _ (by decide +kernel) | j + 4, h => absurd h (by omega)) hA
theorem sc_4 {A : Nat → Prop} (hs : ∀ w ∈ GV, w.before args s = true) (hA : ∀ a : Nat, a < s.heap.size → ¬ A a) : ∃ a v : Nat, (Term.string "WoolThreads$Law" 96).eval args s none [] s = some (.ref a) ∧ vk_S 1 [4] [[116, 97, 107, 101]] (fun _ => a) (fun _ => v) A s s.heap :=
  st_one (by decide) (hs _ (by decide +kernel)) (hs _ (by decide +kernel)) (hs _ (by decide +kernel)) (hs _ (by decide +kernel)) (fun j hj => match j, hj with | 0, _ => hs _ (by decide +kernel) | 1, _ => hs _ (by decide +kernel) | 2, _ => hs _ (by decide +kernel) | 3, _ => hs _ (by decide +kernel) | j + 4, h => absurd h (by omega)) hA
theorem sc_5 {A : Nat → Prop} (hs : ∀ w ∈ GV, w.before args s = true) (hA : ∀ a : Nat, a < s.heap.size → ¬ A a) : ∃ a v : Nat, (Term.string "WoolThreads$Law" 97).eval args s none [] s = some (.ref a) ∧ vk_S 1 [5] [[97, 108, 105, 107, 101]] (fun _ => a) (fun _ => v) A s s.heap :=
  st_one (by decide) (hs _ (by decide +kernel)) (hs _ (by decide +kernel)) (hs _ (by decide +kernel)) (hs _ (by decide +kernel)) (fun j hj => match j, hj with | 0, _ => hs _ (by decide +kernel) | 1, _ => hs _ (by decide +kernel) | 2, _ => hs _ (by decide +kernel) | 3, _ => hs _ (by decide +kernel) | 4, _ => hs _ (by decide +kernel) | j + 5, h => absurd h (by omega)) hA
theorem sc_6 {A : Nat → Prop} (hs : ∀ w ∈ GV, w.before args s = true) (hA : ∀ a : Nat, a < s.heap.size → ¬ A a) : ∃ a v : Nat, (Term.string "WoolThreads$Law" 99).eval args s none [] s = some (.ref a) ∧ vk_S 1 [6] [[99, 111, 109, 109, 111, 110]] (fun _ => a) (fun _ => v) A s s.heap :=
  st_one (by decide) (hs _ (by decide +kernel)) (hs _ (by decide +kernel)) (hs _ (by decide +kernel)) (hs _ (by decide +kernel)) (fun j hj => match j, hj with | 0, _ => hs _ (by decide +kernel) | 1, _ => hs _ (by decide +kernel) | 2, _ => hs _ (by decide +kernel) | 3, _ => hs _ (by decide +kernel) | 4, _ => hs _ (by decide +kernel) | 5, _ => hs _ (by decide +kernel) | j + 6, h => absurd h (by omega)) hA
theorem sc_7 {A : Nat → Prop} (hs : ∀ w ∈ GV, w.before args s = true) (hA : ∀ a : Nat, a < s.heap.size → ¬ A a) : ∃ a v : Nat, (Term.string "WoolThreads$Story" 95).eval args s none [] s = some (.ref a) ∧ vk_S 1 [4] [[119, 101, 97, 114]] (fun _ => a) (fun _ => v) A s s.heap :=
  st_one (by decide) (hs _ (by decide +kernel)) (hs _ (by decide +kernel)) (hs _ (by decide +kernel)) (hs _ (by decide +kernel)) (fun j hj => match j, hj with | 0, _ => hs _ (by decide +kernel) | 1, _ => hs _ (by decide +kernel) | 2, _ => hs _ (by decide +kernel) | 3, _ => hs _ (by decide +kernel) | j + 4, h => absurd h (by omega)) hA
theorem sc_8 {A : Nat → Prop} (hs : ∀ w ∈ GV, w.before args s = true) (hA : ∀ a : Nat, a < s.heap.size → ¬ A a) : ∃ a v : Nat, (Term.string "WoolThreads$Story" 101).eval args s none [] s = some (.ref a) ∧ vk_S 1 [4] [[98, 97, 114, 101]] (fun _ => a) (fun _ => v) A s s.heap :=
  st_one (by decide) (hs _ (by decide +kernel)) (hs _ (by decide +kernel)) (hs _ (by decide +kernel)) (hs _ (by decide +kernel)) (fun j hj => match j, hj with | 0, _ => hs _ (by decide +kernel) | 1, _ => hs _ (by decide +kernel) | 2, _ => hs _ (by decide +kernel) | 3, _ => hs _ (by decide +kernel) | j + 4, h => absurd h (by omega)) hA
theorem sc_9 {A : Nat → Prop} (hs : ∀ w ∈ GV, w.before args s = true) (hA : ∀ a : Nat, a < s.heap.size → ¬ A a) : ∃ a v : Nat, (Term.string "WoolThreads$Story" 103).eval args s none [] s = some (.ref a) ∧ vk_S 1 [5] [[116, 111, 117, 99, 104]] (fun _ => a) (fun _ => v) A s s.heap :=
  st_one (by decide) (hs _ (by decide +kernel)) (hs _ (by decide +kernel)) (hs _ (by decide +kernel)) (hs _ (by decide +kernel)) (fun j hj => match j, hj with | 0, _ => hs _ (by decide +kernel) | 1, _ => hs _ (by decide +kernel) | 2, _ => hs _ (by decide +kernel) | 3, _ => hs _ (by decide +kernel) | 4, _ => hs _ (by decide +kernel) | j + 5, h => absurd h (by omega)) hA
theorem sc_10 {A : Nat → Prop} (hs : ∀ w ∈ GV, w.before args s = true) (hA : ∀ a : Nat, a < s.heap.size → ¬ A a) : ∃ a v : Nat, (Term.string "WoolThreads$Story" 105).eval args s none [] s = some (.ref a) ∧ vk_S 1 [4] [[119, 97, 115, 104]] (fun _ => a) (fun _ => v) A s s.heap :=
  st_one (by decide) (hs _ (by decide +kernel)) (hs _ (by decide +kernel)) (hs _ (by decide +kernel)) (hs _ (by decide +kernel)) (fun j hj => match j, hj with | 0, _ => hs _ (by decide +kernel) | 1, _ => hs _ (by decide +kernel) | 2, _ => hs _ (by decide +kernel) | 3, _ => hs _ (by decide +kernel) | j + 4, h => absurd h (by omega)) hA
theorem sc_11 {A : Nat → Prop} (hs : ∀ w ∈ GV, w.before args s = true) (hA : ∀ a : Nat, a < s.heap.size → ¬ A a) : ∃ a v : Nat, (Term.string "WoolThreads$Story" 107).eval args s none [] s = some (.ref a) ∧ vk_S 1 [5] [[115, 104, 97, 107, 101]] (fun _ => a) (fun _ => v) A s s.heap :=
  st_one (by decide) (hs _ (by decide +kernel)) (hs _ (by decide +kernel)) (hs _ (by decide +kernel)) (hs _ (by decide +kernel)) (fun j hj => match j, hj with | 0, _ => hs _ (by decide +kernel) | 1, _ => hs _ (by decide +kernel) | 2, _ => hs _ (by decide +kernel) | 3, _ => hs _ (by decide +kernel) | 4, _ => hs _ (by decide +kernel) | j + 5, h => absurd h (by omega)) hA
theorem sc_12 {A : Nat → Prop} (hs : ∀ w ∈ GV, w.before args s = true) (hA : ∀ a : Nat, a < s.heap.size → ¬ A a) : ∃ a v : Nat, (Term.string "WoolThreads$Story" 77).eval args s none [] s = some (.ref a) ∧ vk_S 1 [2] [[97, 116]] (fun _ => a) (fun _ => v) A s s.heap :=
  st_one (by decide) (hs _ (by decide +kernel)) (hs _ (by decide +kernel)) (hs _ (by decide +kernel)) (hs _ (by decide +kernel)) (fun j hj => match j, hj with | 0, _ => hs _ (by decide +kernel) | 1, _ => hs _ (by decide +kernel) | j + 2, h => absurd h (by omega)) hA
theorem sc_13 (hs : ∀ w ∈ GV, w.before args s = true) : ∃ a : Nat, (Term.string "WoolThreads" 113).eval args s none [] s = some (.ref a) := by
  obtain ⟨a, c, cell, k, h, -⟩ := Cond.exactly_spec (args := args) (first := s) (o := none) (s := s) (idx := []) (t := (Term.string "WoolThreads" 113)) (cls := "java/lang/String") (hs _ (by decide +kernel))
  exact ⟨a, h⟩
theorem sc_14 (hs : ∀ w ∈ GV, w.before args s = true) : ∃ a : Nat, (Term.string "WoolThreads" 352).eval args s none [] s = some (.ref a) := by
  obtain ⟨a, c, cell, k, h, -⟩ := Cond.exactly_spec (args := args) (first := s) (o := none) (s := s) (idx := []) (t := (Term.string "WoolThreads" 352)) (cls := "java/lang/String") (hs _ (by decide +kernel))
  exact ⟨a, h⟩
theorem sc_15 (hs : ∀ w ∈ GV, w.before args s = true) : ∃ a : Nat, (Term.string "WoolThreads" 144).eval args s none [] s = some (.ref a) := by
  obtain ⟨a, c, cell, k, h, -⟩ := Cond.exactly_spec (args := args) (first := s) (o := none) (s := s) (idx := []) (t := (Term.string "WoolThreads" 144)) (cls := "java/lang/String") (hs _ (by decide +kernel))
  exact ⟨a, h⟩
theorem sc_16 (hs : ∀ w ∈ GV, w.before args s = true) : ∃ a : Nat, (Term.string "WoolThreads" 361).eval args s none [] s = some (.ref a) := by
  obtain ⟨a, c, cell, k, h, -⟩ := Cond.exactly_spec (args := args) (first := s) (o := none) (s := s) (idx := []) (t := (Term.string "WoolThreads" 361)) (cls := "java/lang/String") (hs _ (by decide +kernel))
  exact ⟨a, h⟩
theorem sc_17 (hs : ∀ w ∈ GV, w.before args s = true) : ∃ a : Nat, (Term.string "WoolThreads" 356).eval args s none [] s = some (.ref a) := by
  obtain ⟨a, c, cell, k, h, -⟩ := Cond.exactly_spec (args := args) (first := s) (o := none) (s := s) (idx := []) (t := (Term.string "WoolThreads" 356)) (cls := "java/lang/String") (hs _ (by decide +kernel))
  exact ⟨a, h⟩
theorem sc_18 (hs : ∀ w ∈ GV, w.before args s = true) : ∃ a : Nat, (Term.string "WoolThreads" 172).eval args s none [] s = some (.ref a) := by
  obtain ⟨a, c, cell, k, h, -⟩ := Cond.exactly_spec (args := args) (first := s) (o := none) (s := s) (idx := []) (t := (Term.string "WoolThreads" 172)) (cls := "java/lang/String") (hs _ (by decide +kernel))
  exact ⟨a, h⟩
theorem sc_19 (hs : ∀ w ∈ GV, w.before args s = true) : ∃ a : Nat, (Term.string "WoolThreads" 277).eval args s none [] s = some (.ref a) := by
  obtain ⟨a, c, cell, k, h, -⟩ := Cond.exactly_spec (args := args) (first := s) (o := none) (s := s) (idx := []) (t := (Term.string "WoolThreads" 277)) (cls := "java/lang/String") (hs _ (by decide +kernel))
  exact ⟨a, h⟩
theorem sc_20 (hs : ∀ w ∈ GV, w.before args s = true) : ∃ a : Nat, (Term.string "WoolThreads" 302).eval args s none [] s = some (.ref a) := by
  obtain ⟨a, c, cell, k, h, -⟩ := Cond.exactly_spec (args := args) (first := s) (o := none) (s := s) (idx := []) (t := (Term.string "WoolThreads" 302)) (cls := "java/lang/String") (hs _ (by decide +kernel))
  exact ⟨a, h⟩
theorem sc_21 (hs : ∀ w ∈ GV, w.before args s = true) : ∃ a : Nat, (Term.string "WoolThreads" 325).eval args s none [] s = some (.ref a) := by
  obtain ⟨a, c, cell, k, h, -⟩ := Cond.exactly_spec (args := args) (first := s) (o := none) (s := s) (idx := []) (t := (Term.string "WoolThreads" 325)) (cls := "java/lang/String") (hs _ (by decide +kernel))
  exact ⟨a, h⟩
theorem st_all {A : Nat → Prop} (hs : ∀ w ∈ GV, w.before args s = true) (hA : ∀ a : Nat, a < s.heap.size → ¬ A a) : ∃ adK adV : Nat → Nat, (∀ i : Nat, i < 13 → vk_S 1 [SLEN.getD i 0] [SBYT.getD i []] (fun _ => adK i) (fun _ => adV i) A s s.heap) ∧ ∀ (i : Nat) (o : String) (k : Nat) (t : String), SREF[i]? = some (o, k, t) → (Term.string o k).eval args s none [] s = some (.ref (adK i)) := by
  have h0 : ∀ i : Nat, ∃ x : Nat × Nat, (i < 13 → vk_S 1 [SLEN.getD i 0] [SBYT.getD i []] (fun _ => x.1) (fun _ => x.2) A s s.heap) ∧ ∀ (o : String) (k : Nat) (t : String), SREF[i]? = some (o, k, t) → (Term.string o k).eval args s none [] s = some (.ref x.1) := by
    intro i
    match i with
    | 0 => obtain ⟨a, v, h1, h2⟩ := sc_0 hs hA; exact ⟨(a, v), fun _ => h2, fun o k t h => by cases h; exact h1⟩
    | 1 => obtain ⟨a, v, h1, h2⟩ := sc_1 hs hA; exact ⟨(a, v), fun _ => h2, fun o k t h => by cases h; exact h1⟩
    | 2 => obtain ⟨a, v, h1, h2⟩ := sc_2 hs hA; exact ⟨(a, v), fun _ => h2, fun o k t h => by cases h; exact h1⟩
    | 3 => obtain ⟨a, v, h1, h2⟩ := sc_3 hs hA; exact ⟨(a, v), fun _ => h2, fun o k t h => by cases h; exact h1⟩
    | 4 => obtain ⟨a, v, h1, h2⟩ := sc_4 hs hA; exact ⟨(a, v), fun _ => h2, fun o k t h => by cases h; exact h1⟩
    | 5 => obtain ⟨a, v, h1, h2⟩ := sc_5 hs hA; exact ⟨(a, v), fun _ => h2, fun o k t h => by cases h; exact h1⟩
    | 6 => obtain ⟨a, v, h1, h2⟩ := sc_6 hs hA; exact ⟨(a, v), fun _ => h2, fun o k t h => by cases h; exact h1⟩
    | 7 => obtain ⟨a, v, h1, h2⟩ := sc_7 hs hA; exact ⟨(a, v), fun _ => h2, fun o k t h => by cases h; exact h1⟩
    | 8 => obtain ⟨a, v, h1, h2⟩ := sc_8 hs hA; exact ⟨(a, v), fun _ => h2, fun o k t h => by cases h; exact h1⟩
    | 9 => obtain ⟨a, v, h1, h2⟩ := sc_9 hs hA; exact ⟨(a, v), fun _ => h2, fun o k t h => by cases h; exact h1⟩
    | 10 => obtain ⟨a, v, h1, h2⟩ := sc_10 hs hA; exact ⟨(a, v), fun _ => h2, fun o k t h => by cases h; exact h1⟩
    | 11 => obtain ⟨a, v, h1, h2⟩ := sc_11 hs hA; exact ⟨(a, v), fun _ => h2, fun o k t h => by cases h; exact h1⟩
    | 12 => obtain ⟨a, v, h1, h2⟩ := sc_12 hs hA; exact ⟨(a, v), fun _ => h2, fun o k t h => by cases h; exact h1⟩
    | 13 => obtain ⟨a, h1⟩ := sc_13 hs; exact ⟨(a, 0), fun h => absurd h (by decide), fun o k t h => by cases h; exact h1⟩
    | 14 => obtain ⟨a, h1⟩ := sc_14 hs; exact ⟨(a, 0), fun h => absurd h (by decide), fun o k t h => by cases h; exact h1⟩
    | 15 => obtain ⟨a, h1⟩ := sc_15 hs; exact ⟨(a, 0), fun h => absurd h (by decide), fun o k t h => by cases h; exact h1⟩
    | 16 => obtain ⟨a, h1⟩ := sc_16 hs; exact ⟨(a, 0), fun h => absurd h (by decide), fun o k t h => by cases h; exact h1⟩
    | 17 => obtain ⟨a, h1⟩ := sc_17 hs; exact ⟨(a, 0), fun h => absurd h (by decide), fun o k t h => by cases h; exact h1⟩
    | 18 => obtain ⟨a, h1⟩ := sc_18 hs; exact ⟨(a, 0), fun h => absurd h (by decide), fun o k t h => by cases h; exact h1⟩
    | 19 => obtain ⟨a, h1⟩ := sc_19 hs; exact ⟨(a, 0), fun h => absurd h (by decide), fun o k t h => by cases h; exact h1⟩
    | 20 => obtain ⟨a, h1⟩ := sc_20 hs; exact ⟨(a, 0), fun h => absurd h (by decide), fun o k t h => by cases h; exact h1⟩
    | 21 => obtain ⟨a, h1⟩ := sc_21 hs; exact ⟨(a, 0), fun h => absurd h (by decide), fun o k t h => by cases h; exact h1⟩
    | i + 22 => exact ⟨(0, 0), fun h => absurd h (by omega), fun o k t h => by simp [SREF] at h⟩
  obtain ⟨f, hf⟩ := Classical.axiomOfChoice h0
  exact ⟨fun i => (f i).1, fun i => (f i).2, fun i hi => (hf i).1 hi, fun i o k t h => (hf i).2 o k t h⟩
theorem sr_all (hts : ∀ w ∈ lw_tbl, w.before args s = true) : ∀ (i : Nat) (o : String) (k : Nat) (t : String), SREF[i]? = some (o, k, t) → (Cond.stringRef o k t).before args s = true := by
  intro i o k t h
  match i, h with
  | 0, h => cases h; exact hts _ (List.mem_append_right _ (tb3 (List.mem_of_getElem? (i := 57) rfl)))
  | 1, h => cases h; exact hts _ (List.mem_append_right _ (tb3 (List.mem_of_getElem? (i := 110) rfl)))
  | 2, h => cases h; exact hts _ (List.mem_append_right _ (tb3 (List.mem_of_getElem? (i := 111) rfl)))
  | 3, h => cases h; exact hts _ (List.mem_append_right _ (tb3 (List.mem_of_getElem? (i := 112) rfl)))
  | 4, h => cases h; exact hts _ (List.mem_append_right _ (tb3 (List.mem_of_getElem? (i := 113) rfl)))
  | 5, h => cases h; exact hts _ (List.mem_append_right _ (tb3 (List.mem_of_getElem? (i := 114) rfl)))
  | 6, h => cases h; exact hts _ (List.mem_append_right _ (tb3 (List.mem_of_getElem? (i := 115) rfl)))
  | 7, h => cases h; exact hts _ (List.mem_append_right _ (tb3 (List.mem_of_getElem? (i := 174) rfl)))
  | 8, h => cases h; exact hts _ (List.mem_append_right _ (tb3 (List.mem_of_getElem? (i := 176) rfl)))
  | 9, h => cases h; exact hts _ (List.mem_append_right _ (tb3 (List.mem_of_getElem? (i := 177) rfl)))
  | 10, h => cases h; exact hts _ (List.mem_append_right _ (tb3 (List.mem_of_getElem? (i := 178) rfl)))
  | 11, h => cases h; exact hts _ (List.mem_append_right _ (tb3 (List.mem_of_getElem? (i := 179) rfl)))
  | 12, h => cases h; exact hts _ (List.mem_append_right _ (tb3 (List.mem_of_getElem? (i := 183) rfl)))
  | 13, h => cases h; exact hts _ (List.mem_append_right _ (tb2 (List.mem_of_getElem? (i := 226) rfl)))
  | 14, h => cases h; exact hts _ (List.mem_append_right _ (tb3 (List.mem_of_getElem? (i := 208) rfl)))
  | 15, h => cases h; exact hts _ (List.mem_append_right _ (tb3 (List.mem_of_getElem? (i := 228) rfl)))
  | 16, h => cases h; exact hts _ (List.mem_append_right _ (tb4 (List.mem_of_getElem? (i := 18) rfl)))
  | 17, h => cases h; exact hts _ (List.mem_append_right _ (tb4 (List.mem_of_getElem? (i := 120) rfl)))
  | 18, h => cases h; exact hts _ (List.mem_append_right _ (tb5 (List.mem_of_getElem? (i := 66) rfl)))
  | 19, h => cases h; exact hts _ (List.mem_append_right _ (tb5 (List.mem_of_getElem? (i := 82) rfl)))
  | 20, h => cases h; exact hts _ (List.mem_append_right _ (tb5 (List.mem_of_getElem? (i := 95) rfl)))
  | 21, h => cases h; exact hts _ (List.mem_append_right _ (tb5 (List.mem_of_getElem? (i := 138) rfl)))
  | i + 22, h => simp [SREF] at h
theorem ow_all {A : Nat → Prop} (hts : ∀ w ∈ lw_tbl, w.before args s = true) (hs : ∀ w ∈ GV, w.before args s = true) (hA : ∀ a : Nat, a < s.heap.size → ¬ A a) : ∃ adK adV : Nat → Nat, OW adK adV A s s.heap := by
  obtain ⟨adK, adV, h1, h2⟩ := st_all (A := A) hs hA
  refine ⟨adK, adV, h1, ?_, ?_, ⟨?_, ?_⟩, fun i o k t h => vk_R.of (sr_all hts i o k t h) (h2 i o k t h), fun x hm => va_Nw.of rfl (hts _ (List.mem_append_right _ hm)), fun C T hm => va_Nw.of rfl (hts _ (List.mem_append_right _ hm))⟩
  · exact va_Zof (hts _ (List.mem_append_right _ (tb3 (List.mem_of_getElem? (i := 71) rfl)))) (hts _ (List.mem_append_right _ (tb1 (List.mem_of_getElem? (i := 20) rfl)))) (va_eqt (hs _ (by decide +kernel))) hA
  · exact va_Zqof (hts _ (List.mem_append_right _ (tb3 (List.mem_of_getElem? (i := 87) rfl)))) (hts _ (List.mem_append_right _ (tb1 (List.mem_of_getElem? (i := 22) rfl)))) (hs _ (by decide +kernel)) hA
  · exact vx_Zqof (hts _ (List.mem_append_right _ (tb2 (List.mem_of_getElem? (i := 212) rfl)))) (hts _ (List.mem_append_right _ (tb1 (List.mem_of_getElem? (i := 15) rfl)))) (hs _ (by decide +kernel)) hA
  · exact vx_Zqof (hts _ (List.mem_append_right _ (tb2 (List.mem_of_getElem? (i := 214) rfl)))) (hts _ (List.mem_append_right _ (tb1 (List.mem_of_getElem? (i := 15) rfl)))) (hs _ (by decide +kernel)) hA
theorem nx_all (hs : ∀ w ∈ GV, w.before args s = true) : NX s := by
  intro i j hi hj hij
  match i, j, hi, hj, hij with
  | 0, 0, _, _, h => exact absurd rfl h
  | 1, 1, _, _, h => exact absurd rfl h
  | 2, 2, _, _, h => exact absurd rfl h
  | 0, 1, _, _, _ => exact va_Nc.of (args := args) (hs _ (by decide +kernel))
  | 0, 2, _, _, _ => exact va_Nc.of (args := args) (hs _ (by decide +kernel))
  | 1, 0, _, _, _ => exact va_Nc.of (args := args) (hs _ (by decide +kernel))
  | 1, 2, _, _, _ => exact va_Nc.of (args := args) (hs _ (by decide +kernel))
  | 2, 0, _, _, _ => exact va_Nc.of (args := args) (hs _ (by decide +kernel))
  | 2, 1, _, _, _ => exact va_Nc.of (args := args) (hs _ (by decide +kernel))
  | i + 3, _, h, _, _ => exact absurd h (by omega)
  | 0, j + 3, _, h, _ => exact absurd h (by omega)
  | 1, j + 3, _, h, _ => exact absurd h (by omega)
  | 2, j + 3, _, h, _ => exact absurd h (by omega)
end PR
