/-! ===== words ===== -/
/-- the tables' words that hold at every later state too -/
def lw_g : List Cond := lw_tbl.filter goodWord
/-- a field's type, by its class' number and its place -/
def hty (c : Nat) : Nat → FieldType := match c with
  | 0 => tyX0 | 1 => tyX1 | 2 => tyX2 | 3 => tyX3 | 4 => tyX4 | 5 => tyX5 | 6 => tyX6 | 7 => tyX7 | 8 => tyX8 | 9 => tyX9 | 10 => tyX10 | _ => tyX11
/-- the words of the nest, which need a law of their own to hold at later states -/
def lw_isN (w : Cond) : Bool := match w with
  | .methodLinkNest .. => true | .fieldLinkNest .. => true | _ => false
def lw_n : List Cond := tables_1.filter lw_isN
/-- what the printed names say of a class -/
def hCl (ci : Nat) (w : vw_C) : Prop := vwCl[ci]? = some w ∧ (∀ x ∈ u_ws w.1 w.2.1 w.2.2, x ∈ lw_g) ∧ (∀ k, k < w.2.2 → parseFieldDescriptor (w.2.1 k).2.2.1 = some (hty ci k)) ∧ (∀ a, a < w.2.2 → ∀ b, b < w.2.2 → a ≠ b → (w.2.1 a).2.1 ≠ (w.2.1 b).2.1)
/-- an entry of a class' constants that names a field: the k-th of the class ci; b: it is final -/
def hFl (own : String) (index ci k : Nat) (b : Bool) : Prop := ∃ w : vw_C, hCl ci w ∧ k < w.2.2 ∧ Cond.fieldLink own index (w.2.1 k).1 (w.2.1 k).2.1 (w.2.1 k).2.2.1 ∈ lw_g ∧ (w.2.1 k).2.2.2 = b ∧ (w.2.1 k).1 = w.1
theorem lw_good : GoodIn lw_g lw_g := fun w hw => ⟨hw, good_of_word (List.mem_filter.mp hw).2⟩
theorem lw_goodc {y : MethodName} {cc : ByteArray} {nL : Nat} {ret : Option FieldType} (h : Cond.code y cc nL ret ∈ lw_g) : GoodIn lw_g (.code y cc nL ret :: lw_g) := fun w hw => (List.mem_cons.mp hw).elim (fun e => by rw [e]; exact lw_good _ h) (lw_good w)
theorem lw_mem {w : Cond} {i : Nat} (h : lw_tbl[i]? = some w) (hg : goodWord w = true) : w ∈ lw_g := List.mem_filter.mpr ⟨List.mem_of_getElem? h, hg⟩
theorem lw_memt {w : Cond} {i : Nat} (h : tables_1[i]? = some w) (hg : goodWord w = true) : w ∈ lw_g := List.mem_filter.mpr ⟨List.mem_append_right _ (List.mem_of_getElem? h), hg⟩
theorem lw_mems {w : Cond} {i : Nat} (h : (k2_sels lw_privs)[i]? = some w) (hg : goodWord w = true) : w ∈ lw_g := List.mem_filter.mpr ⟨List.mem_append_left _ (List.mem_of_getElem? h), hg⟩
theorem lw_memn {w : Cond} {i : Nat} (h : tables_1[i]? = some w) (hg : lw_isN w = true) : w ∈ lw_n := List.mem_filter.mpr ⟨List.mem_of_getElem? h, hg⟩
/-- what a callee's own rows say -/
def hMb (y : MethodName) (cc : ByteArray) (nL : Nat) (ret : Option FieldType) (n : Nat) : Prop := Cond.code y cc nL ret ∈ lw_g ∧ Cond.initialized y.cls ∈ lw_g ∧ (y.cls ≠ "java/lang/invoke/MethodHandle" ∧ y.cls ≠ "java/lang/invoke/VarHandle" ∧ (parseMethodDescriptor y.desc).map (fun d => d.parameters.length) = some n)
def hMv (y : MethodName) (cc : ByteArray) (nL : Nat) (ret : Option FieldType) (n : Nat) : Prop := hMb y cc nL ret n ∧ Cond.instanceMethod y ∈ lw_g ∧ Cond.selects y.cls y y ∈ lw_g
def hMs (y : MethodName) (cc : ByteArray) (nL : Nat) (ret : Option FieldType) (n : Nat) : Prop := hMb y cc nL ret n ∧ Cond.static y ∈ lw_g
def hMi (y : MethodName) (cc : ByteArray) (nL : Nat) (n : Nat) : Prop := hMb y cc nL none n ∧ y.name = "<init>" ∧ Cond.instanceMethod y ∈ lw_g
