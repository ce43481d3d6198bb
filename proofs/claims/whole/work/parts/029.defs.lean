/-! MY OWN LAYER, its definitions: the good words, and what a site of the code names -/
def GT : List Cond := lw_tbl.filter goodWord
theorem gt_mem {w : Cond} (h : w ∈ tables_1) (g : goodWord w = true) : w ∈ GT := List.mem_filter.mpr ⟨List.mem_append_right _ h, g⟩
theorem gt_priv {w : Cond} (h : w ∈ k2_sels lw_privs) (g : goodWord w = true) : w ∈ GT := List.mem_filter.mpr ⟨List.mem_append_left _ h, g⟩
theorem gt_good {w : Cond} (h : w ∈ GT) : (w.onTables && w.keeps) = true ∨ ∃ ty, w = .arrayClass ty := good_of_word (List.mem_filter.mp h).2
theorem gt_lw {w : Cond} (h : w ∈ GT) : w ∈ lw_tbl := (List.mem_filter.mp h).1
/-- the field at index of own's pool: class ci, place f -/
def FL (own : String) (index ci f : Nat) : Prop := ∃ (Cn : String) (T : u_T) (N : Nat), vwCl[ci]? = some (Cn, T, N) ∧ f < N ∧ (∀ w ∈ u_ws Cn T N, w ∈ GT) ∧ Cond.fieldLink own index (T f).1 (T f).2.1 (T f).2.2.1 ∈ GT
/-- .. and it may be written -/
def FP (own : String) (index ci f : Nat) (ty : FieldType) : Prop := ∃ (Cn : String) (T : u_T) (N : Nat) (ty0 : Nat → FieldType), vwCl[ci]? = some (Cn, T, N) ∧ f < N ∧ (∀ w ∈ u_ws Cn T N, w ∈ GT) ∧ Cond.fieldLink own index (T f).1 (T f).2.1 (T f).2.2.1 ∈ GT ∧ (∀ k, k < N → parseFieldDescriptor (T k).2.2.1 = some (ty0 k)) ∧ (∀ a, a < N → ∀ b, b < N → a ≠ b → (T a).2.1 ≠ (T b).2.1) ∧ (T f).2.2.2 = false ∧ parseFieldDescriptor (T f).2.2.1 = some ty
def FF (own : String) (index ci f : Nat) (ty : FieldType) : Prop := ∃ (Cn : String) (T : u_T) (N : Nat) (ty0 : Nat → FieldType), vwCl[ci]? = some (Cn, T, N) ∧ f < N ∧ (∀ w ∈ u_ws Cn T N, w ∈ GT) ∧ Cond.fieldLink own index (T f).1 (T f).2.1 (T f).2.2.1 ∈ GT ∧ (∀ k, k < N → parseFieldDescriptor (T k).2.2.1 = some (ty0 k)) ∧ (∀ a, a < N → ∀ b, b < N → a ≠ b → (T a).2.1 ≠ (T b).2.1) ∧ (T f).2.2.2 = true ∧ (T f).1 = own ∧ parseFieldDescriptor (T f).2.2.1 = some ty
/-- a method that a site calls: by its name and its table words -/
def LkV (own : String) (index : Nat) (y : MethodName) (cd : ByteArray) (maxL : Nat) (ret : Option FieldType) (na : Nat) : Prop := Cond.methodLink own index y ∈ GT ∧ Cond.instanceMethod y ∈ GT ∧ Cond.selects y.cls y y ∈ GT ∧ Cond.initialized y.cls ∈ GT ∧ Cond.code y cd maxL ret ∈ GT ∧ (y.cls ≠ "java/lang/invoke/MethodHandle" ∧ y.cls ≠ "java/lang/invoke/VarHandle" ∧ (parseMethodDescriptor y.desc).map (fun d => d.parameters.length) = some na)
def LkS (own : String) (index : Nat) (y : MethodName) (cd : ByteArray) (maxL : Nat) (ret : Option FieldType) (na : Nat) : Prop := Cond.methodLink own index y ∈ GT ∧ Cond.static y ∈ GT ∧ Cond.initialized y.cls ∈ GT ∧ Cond.code y cd maxL ret ∈ GT ∧ (y.cls ≠ "java/lang/invoke/MethodHandle" ∧ y.cls ≠ "java/lang/invoke/VarHandle" ∧ (parseMethodDescriptor y.desc).map (fun d => d.parameters.length) = some na)
def LkN (own : String) (index : Nat) (y : MethodName) (cd : ByteArray) (maxL : Nat) (ret : Option FieldType) (na : Nat) : Prop := (∃ host, Cond.methodLinkNest own index y host ∈ tables_1) ∧ Cond.static y ∈ GT ∧ Cond.initialized y.cls ∈ GT ∧ Cond.code y cd maxL ret ∈ GT ∧ (y.cls ≠ "java/lang/invoke/MethodHandle" ∧ y.cls ≠ "java/lang/invoke/VarHandle" ∧ (parseMethodDescriptor y.desc).map (fun d => d.parameters.length) = some na)
theorem tb1 {w : Cond} (h : w ∈ tables_1_1) : w ∈ tables_1 := List.mem_append_left _ h
theorem tb2 {w : Cond} (h : w ∈ tables_1_2) : w ∈ tables_1 := List.mem_append_right _ (List.mem_append_left _ h)
theorem tb3 {w : Cond} (h : w ∈ tables_1_3) : w ∈ tables_1 := List.mem_append_right _ (List.mem_append_right _ (List.mem_append_left _ h))
theorem tb4 {w : Cond} (h : w ∈ tables_1_4) : w ∈ tables_1 := List.mem_append_right _ (List.mem_append_right _ (List.mem_append_right _ (List.mem_append_left _ h)))
theorem tb5 {w : Cond} (h : w ∈ tables_1_5) : w ∈ tables_1 := List.mem_append_right _ (List.mem_append_right _ (List.mem_append_right _ (List.mem_append_right _ (List.mem_append_left _ h))))
theorem tb6 {w : Cond} (h : w ∈ tables_1_6) : w ∈ tables_1 := List.mem_append_right _ (List.mem_append_right _ (List.mem_append_right _ (List.mem_append_right _ (List.mem_append_right _ (List.mem_append_left _ h)))))
theorem tb7 {w : Cond} (h : w ∈ tables_1_7) : w ∈ tables_1 := List.mem_append_right _ (List.mem_append_right _ (List.mem_append_right _ (List.mem_append_right _ (List.mem_append_right _ (List.mem_append_right _ h)))))
