/-! ===== the heap as four functions, and the walk's judgement over it ===== -/
/-- what a cell is: an array of a type and a length, or an object of a class by its number in vwCl -/
abbrev hKd : Type := (FieldType × Nat) ⊕ Nat
/-- cells have numbers of ours: by number (and place) the kinds, ints (of int and boolean arrays and fields), longs, references (numbers too); and the address of each number -/
abbrev hG : Type := (Nat → Option hKd) × (Nat → Nat → Int32) × (Nat → Nat → Int64) × (Nat → Nat → Option Nat) × (Nat → Nat)
def hav (ty : FieldType) (i : Nat → Int32) (l : Nat → Int64) (r : Nat → Option Nat) : Nat → Value := match ty with
  | .long => fun j => .long (l j)
  | .int => fun j => .int (i j)
  | .boolean => fun j => .int (i j)
  | _ => fun j => va_rf (r j)
def hrf (ty : FieldType) : Bool := match ty with
  | .int => false | .boolean => false | _ => true
def hfv (c : Nat) (i : Nat → Int32) (r : Nat → Option Nat) : Nat → Value := fun j => if hrf (hty c j) then va_rf (r j) else .int (i j)
def hat (U : State) (D : va_G) (k : hKd) (i : Nat → Int32) (l : Nat → Int64) (r : Nat → Option Nat) (q : Nat) (H : Heap) : Prop := match k with
  | .inl t => ∃ cell : Cell, H[q]? = some cell ∧ U.isArrayOf cell t.1 ∧ cell.vm ≠ .unknown ∧ cell.slots.size = t.2 ∧ (∀ j, j < t.2 → cell.slots[j]? = some (hav t.1 i l r j)) ∧ (∀ C, t.1 = .object C → va_RA U cell.cls t.1)
  | .inr c => ∃ w : vw_C, vwCl[c]? = some w ∧ t_OB q (D.1 c) w.2.2 (D.2 c) H (hfv c i r)
def HR (U : State) (D : va_G) (G : hG) (H : Heap) : Prop := (∀ (q : Nat) (k : hKd), G.1 q = some k → hat U D k (G.2.1 q) (G.2.2.1 q) (fun j => (G.2.2.2.1 q j).map G.2.2.2.2) (G.2.2.2.2 q) H) ∧ ∀ i j : Nat, G.1 i ≠ none → G.1 j ≠ none → G.2.2.2.2 i = G.2.2.2.2 j → i = j
theorem hat.lt {U : State} {D : va_G} {k : hKd} {i : Nat → Int32} {l : Nat → Int64} {r : Nat → Option Nat} {q : Nat} {H : Heap} (h : hat U D k i l r q H) : q < H.size := by
  match k, h with
  | .inl t, ⟨ce, h, _⟩ => exact (Array.getElem?_eq_some_iff.mp h).1
  | .inr c, ⟨w, _, ce, h, _⟩ => exact (Array.getElem?_eq_some_iff.mp h).1
theorem hat.kept {U : State} {D : va_G} {k : hKd} {i : Nat → Int32} {l : Nat → Int64} {r : Nat → Option Nat} {q : Nat} {H H1 : Heap} (h : hat U D k i l r q H) (e : H1[q]? = H[q]?) : hat U D k i l r q H1 := by
  match k, h with
  | .inl t, ⟨ce, h, h2⟩ => exact ⟨ce, by rw [e]; exact h, h2⟩
  | .inr c, ⟨w, h1, h2⟩ => exact ⟨w, h1, h2.kept e⟩
theorem hat.moved {u U : State} {D : va_G} {k : hKd} {i : Nat → Int32} {l : Nat → Int64} {r : Nat → Option Nat} {q : Nat} {H : Heap} (hvm : u.vm.Alike U.vm) (h : hat u D k i l r q H) : hat U D k i l r q H := by
  match k, h with
  | .inl t, ⟨ce, h1, h2, h3, h4, h5, h6⟩ => exact ⟨ce, h1, State.isArrayOf_alike hvm h2, h3, h4, h5, fun C e => (h6 C e).moved hvm⟩
  | .inr c, h => exact h
theorem HR.moved {u U : State} {D : va_G} {G : hG} {H : Heap} (hvm : u.vm.Alike U.vm) (h : HR u D G H) : HR U D G H := ⟨fun q k e => (h.1 q k e).moved hvm, h.2⟩
/-- the heap behind a write of one cell -/
theorem HR.put {U : State} {D : va_G} {G G1 : hG} {H H1 : Heap} {a : Nat} {ka : hKd} (h : HR U D G H) (hka : G.1 a = some ka) (oq : ∀ q : Nat, q ≠ G.2.2.2.2 a → H1[q]? = H[q]?) (hT : G1.1 = G.1) (hA : G1.2.2.2.2 = G.2.2.2.2) (hI : ∀ q, q ≠ a → G1.2.1 q = G.2.1 q) (hL : ∀ q, q ≠ a → G1.2.2.1 q = G.2.2.1 q) (hR : ∀ q, q ≠ a → G1.2.2.2.1 q = G.2.2.2.1 q)
    (ha : hat U D ka (G1.2.1 a) (G1.2.2.1 a) (fun j => (G1.2.2.2.1 a j).map G.2.2.2.2) (G.2.2.2.2 a) H1) : HR U D G1 H1 := by
  refine ⟨fun q k e => ?_, by rw [hT, hA]; exact h.2⟩
  rw [hT] at e
  by_cases hq : q = a
  · subst hq
    have : k = ka := Option.some.inj (e.symm.trans hka)
    subst this
    rw [hA]
    exact ha
  · rw [hI q hq, hL q hq, hR q hq, hA]
    exact (h.1 q k e).kept (oq _ (fun e2 => hq (h.2 q a (by rw [e]; exact fun x => by cases x) (by rw [hka]; exact fun x => by cases x) e2)))
theorem hav_upd {n : Nat} {cell : Cell} {V : Nat → Value} {i : Nat} {v : Value} (h : cell.slots.size = n) (hv : ∀ j, j < n → cell.slots[j]? = some (V j)) {V' : Nat → Value} (h1 : V' i = v) (h2 : ∀ j, j ≠ i → V' j = V j) : ∀ j, j < n → (cell.setSlot i v).slots[j]? = some (V' j) := by
  intro j hj
  show (cell.slots.setIfInBounds i v)[j]? = _
  rw [Array.getElem?_setIfInBounds]
  by_cases e : i = j
  · subst e
    rw [if_pos rfl, if_pos (by rw [h]; exact hj), h1]
  · rw [if_neg e, hv j hj, h2 j (fun q => e q.symm)]
/-- statics that are arrays: where their fields point -/
def hSt : List (String × String) := [("StepShake$Pattern", "NEEDS"), ("StepShake$Sha", "FIRST"), ("StepShake$Sha", "ROUND"), ("StepShake$Curve", "BASE"), ("StepShake", "NOTHING")]
theorem lw_isN_on {w : Cond} (h : lw_isN w = true) : w.onTables = true := by
  cases w <;> first | rfl | (simp [lw_isN] at h; done)
theorem lw_warm {w : Cond} {s U : State} (hW : s.WarmedH U.vm) (h : lw_isN w = true) (hw : va_Nw w s) : va_Nw w U := by
  match w, h with
  | .methodLinkNest a i x b, _ => exact hw.warmM hW
  | .fieldLinkNest a i b n d c, _ => exact hw.warmF hW
/-- arrays of references that are made -/
def lw_ao : List FieldType := [.object "StepShake$Pattern", .object "StepShake$Side", .array .int]
def hAo (U : State) : Prop := ∀ ty ∈ lw_ao, (Cond.arrayOver ty).before #[] U = true
theorem hAo.moved {u U : State} (h : u.vm.Alike U.vm) (a : hAo u) : hAo U := by
  intro ty hty
  have h1 : (Cond.arrayOver ty).before #[] (u.setVm U.vm) = true := by rw [Cond.arrayOver_setVmC h]; exact a ty hty
  exact h1
/-- the name of the handshake: its bytes -/
def hNm : List Int32 := [72, 97, 110, 100, 115, 104, 97, 107, 101, 32, 98, 121, 32, 115, 116, 101, 112, 115]
def hStr (a0 : Nat) (sa : Nat → Nat) (U : State) (H : Heap) : Prop := vk_R "StepShake$Talk" 107 "Handshake by steps" (sa 5) U ∧ vk_S 1 [18] [hNm] (fun _ => sa 5) (fun _ => sa 6) (fun x => a0 ≤ x) U H ∧ va_Z "java/lang/String" "COMPACT_STRINGS" "Z" (.int 1) (fun x => a0 ≤ x) U H ∧ va_Zq "jdk/internal/util/Preconditions" "SIOOBE_FORMATTER" "Ljava/util/function/BiFunction;" (fun x => a0 ≤ x) U H
/-- what the tables and the statics say, at a state -/
def hKs (D : va_G) (a0 : Nat) (sa : Nat → Nat) (U : State) (H : Heap) : Prop := va_K D vwCl [] U ∧ (∀ (k : Nat) (q : String × String), hSt[k]? = some q → va_Z q.1 q.2 "[I" (.ref (sa k)) (fun x => a0 ≤ x) U H) ∧ (∀ w ∈ lw_n, va_Nw w U) ∧ hAo U ∧ hStr a0 sa U H
theorem hKs.moved {D : va_G} {a0 : Nat} {sa : Nat → Nat} {u U : State} {H : Heap} (hW : u.WarmedH U.vm) (h : hKs D a0 sa u H) : hKs D a0 sa U H := ⟨va_K.moved hW.alike h.1, fun k q e => (h.2.1 k q e).moved hW.alike, fun w hw => lw_warm hW (List.mem_filter.mp hw).2 (h.2.2.1 w hw), h.2.2.2.1.moved hW.alike, h.2.2.2.2.1.warm hW, h.2.2.2.2.2.1.moved hW.alike, h.2.2.2.2.2.2.1.moved hW.alike, h.2.2.2.2.2.2.2.moved hW.alike⟩
theorem hKs.same {D : va_G} {a0 : Nat} {sa : Nat → Nat} {u U : State} {H : Heap} (e : u.vm = U.vm) (h : hKs D a0 sa u H) : hKs D a0 sa U H := by
  have ha : u.vm.Alike U.vm := by rw [e]; exact Vm.Alike.refl _
  exact ⟨va_K.moved ha h.1, fun k q e' => (h.2.1 k q e').moved ha, fun w hw => (h.2.2.1 w hw).same (lw_isN_on (List.mem_filter.mp hw).2) e, h.2.2.2.1.moved ha, h.2.2.2.2.1.same e.symm, h.2.2.2.2.2.1.moved ha, h.2.2.2.2.2.2.1.moved ha, h.2.2.2.2.2.2.2.moved ha⟩
theorem hKs.kept {D : va_G} {a0 : Nat} {sa : Nat → Nat} {U : State} {H H1 : Heap} (h : hKs D a0 sa U H) (hq : ∀ a : Nat, a < H.size → ¬ a0 ≤ a → H1[a]? = H[a]?) : hKs D a0 sa U H1 := ⟨h.1, fun k q e => (h.2.1 k q e).kept hq, h.2.2.1, h.2.2.2.1, h.2.2.2.2.1, h.2.2.2.2.2.1.kept hq, h.2.2.2.2.2.2.1.kept hq, h.2.2.2.2.2.2.2.kept hq⟩
/-- the fixed part of a walk: program, launch, environment, room, the entry's state, method, arguments, frames below, method, code, locals, base address, class numbers, static arrays' addresses, aim -/
abbrev hZ : Type := Program × Launch × Env × Room × State × MethodId × Array Value × List Frame × Method × Code × Nat × Nat × va_G × (Nat → Nat) × (State → Prop)
abbrev zp (z : hZ) : Program := z.1
abbrev zl (z : hZ) : Launch := z.2.1
abbrev ze (z : hZ) : Env := z.2.2.1
abbrev zR (z : hZ) : Room := z.2.2.2.1
abbrev zs (z : hZ) : State := z.2.2.2.2.1
abbrev zm (z : hZ) : MethodId := z.2.2.2.2.2.1
abbrev za (z : hZ) : Array Value := z.2.2.2.2.2.2.1
abbrev zb (z : hZ) : List Frame := z.2.2.2.2.2.2.2.1
abbrev zM (z : hZ) : Method := z.2.2.2.2.2.2.2.2.1
abbrev zc (z : hZ) : Code := z.2.2.2.2.2.2.2.2.2.1
abbrev zn (z : hZ) : Nat := z.2.2.2.2.2.2.2.2.2.2.1
abbrev z0 (z : hZ) : Nat := z.2.2.2.2.2.2.2.2.2.2.2.1
abbrev zD (z : hZ) : va_G := z.2.2.2.2.2.2.2.2.2.2.2.2.1
abbrev zS (z : hZ) : Nat → Nat := z.2.2.2.2.2.2.2.2.2.2.2.2.2.1
abbrev zQ (z : hZ) : State → Prop := z.2.2.2.2.2.2.2.2.2.2.2.2.2.2
abbrev zW (z : hZ) (H : Heap) (locs : List Loc) (cells slots pc : Nat) (ls : Array Slot) (st : List Value) : Prop := W (zp z) (zl z) (ze z) (zR z) (zs z) (zm z) (za z) (zb z) (zM z) (zc z) H locs cells slots (zQ z) (F0 (zm z) pc ls st)
/-- at pc, with the heap G, the locals lv and the stack st, the machine comes to its aim -/
def hX (z : hZ) (cells slots : Nat) (G : hG) (lv : List (Nat × Value)) (pc : Nat) (st : List Value) : Prop :=
  ∀ (H : Heap) (locs : List Loc) (ls : Array Slot), HR (zs z) (zD z) G H → va_S (fun q => z0 z ≤ q) (zs z).heap H locs → lv_has ls (zn z) lv → zW z H locs cells slots pc ls st
/-- what a walk knows of its fixed part -/
def hC (z : hZ) (own : String) (cc : ByteArray) : Prop := (zp z).tables.exec = Jvm.exec ∧ (zc z).code = cc ∧ (zc z).maxLocals = zn z ∧ (zs z).vm.findClass own = some (zm z).cls ∧ (∀ w ∈ lw_g, w.before (za z) (zs z) = true) ∧ hKs (zD z) (z0 z) (zS z) (zs z) (zs z).heap ∧ z0 z ≤ (zs z).heap.size
/-- and of its end -/
def hE (z : hZ) (y : MethodName) (ret : Option FieldType) (rm : Room) (post : Option Value → hG → Prop) : Prop := (zM z).sig.returnType = ret ∧ (zM z).locks = false ∧ (zM z).name = y.name ∧ zR z = rm ∧
  zQ z = MQ (zb z) (fun _ st oc t => (∃ (v : Option Value) (G : hG), oc = .returned v ∧ post v G ∧ HR t (zD z) G t.heap) ∧ va_F (fun q => z0 z ≤ q) st t) (za z) (zs z) rm.cells rm.slots (fun q => z0 z ≤ q)
/-- a method's contract over the heap G: it returns, and 'post' holds of its answer and its heap -/
def hM (l : Launch) (a0 : Nat) (D : va_G) (sa : Nat → Nat) (y : MethodName) (cc : ByteArray) (nL : Nat) (ret : Option FieldType) (rm : Room) (av : List Value) (G : hG) (post : Option Value → hG → Prop) : Prop :=
  Met l y (.code y cc nL ret :: lw_g) rm (va_Pc av (fun U => HR U D G U.heap ∧ hKs D a0 sa U U.heap ∧ a0 ≤ U.heap.size))
    (fun _ st oc t => (∃ (v : Option Value) (G' : hG), oc = .returned v ∧ post v G' ∧ HR t D G' t.heap) ∧ va_F (fun q => a0 ≤ q) st t) rm.cells rm.slots (fun q => a0 ≤ q)
theorem hM.of {l : Launch} {a0 : Nat} {D : va_G} {sa : Nat → Nat} {y : MethodName} {cc : ByteArray} {nL : Nat} {ret : Option FieldType} {rm : Room} {av : List Value} {G : hG} {post : Option Value → hG → Prop} (hy : plainName y.cls = true) (hl : (lg_sl av).length ≤ nL)
    (h : ∀ z : hZ, zl z = l → z0 z = a0 → zD z = D → zS z = sa → zn z = nL → hC z y.cls cc → hE z y ret rm post → hX z 0 0 G (lv_args 0 av) 0 []) : hM l a0 D sa y cc nL ret rm av G post := by
  refine Met.ofW (cc := cc) (maxL := nL) (ret := ret) hy rfl ?_
  intro p e s m args below meth c s₁ B hml hv
  obtain ⟨rfl, hP, hK, hsz⟩ := hv
  have hts := atoms_spec (ws := .code y cc nL ret :: lw_g) B.pre
  have hown : s.vm.findClass y.cls = some m.cls := findClass_of_methodNamed B.named
  have hlv := lv_entry av (n := nL) hl
  have hin : meth.name = y.name := (name_of_methodNamed B.named B.method).1
  rw [lg_entry_eq]
  exact h (p, l, e, rm, s, m, av.toArray, below, meth, c, nL, a0, D, sa, _) rfl rfl rfl rfl rfl ⟨B.exec, B.bytes, hml, hown, fun w hw => hts w (List.mem_cons_of_mem _ hw), hK, hsz⟩ ⟨B.returns, B.notSynchronized, hin, rfl, rfl⟩ s.heap [] _ hP va_S.rf hlv
