/-! ===== rows of rows of ints, made at once (the kit has no row for it) ===== -/
/-- the outer row when its first i places are filled -/
def mu_v (h0 i : Nat) : Nat → Value := fun j => if j < i then .ref (h0 + 1 + j) else .null
/-- the state when i inner rows are made -/
def mu_s (s : State) (c comp : ClassId) (N M : Nat) : Nat → State
  | 0 => s.pushCell (arrV c N (mu_v s.heap.size 0))
  | i + 1 => ((mu_s s c comp N M i).pushCell (arrV comp M (fun _ => .int 0))).setCell s.heap.size (arrV c N (mu_v s.heap.size (i + 1)))
theorem mu_vS (h0 i : Nat) : updV (mu_v h0 i) i (.ref (h0 + 1 + i)) = mu_v h0 (i + 1) := by
  funext j
  unfold updV mu_v
  by_cases e : j = i
  · subst e; rw [if_pos rfl, if_pos (Nat.lt_succ_self j)]
  · rw [if_neg e]
    by_cases h : j < i
    · rw [if_pos h, if_pos (by omega)]
    · rw [if_neg h, if_neg (by omega)]
theorem mu_at (s : State) (c comp : ClassId) (N M : Nat) (i : Nat) : (mu_s s c comp N M i).heap.size = s.heap.size + 1 + i ∧ (mu_s s c comp N M i).heap[s.heap.size]? = some (arrV c N (mu_v s.heap.size i)) ∧ (mu_s s c comp N M i).vm = s.vm ∧ (mu_s s c comp N M i).slotsUsed = s.slotsUsed + N + i * M ∧ (∀ a : Nat, a < s.heap.size → (mu_s s c comp N M i).heap[a]? = s.heap[a]?) ∧ ∀ j, j < i → (mu_s s c comp N M i).heap[s.heap.size + 1 + j]? = some (arrV comp M (fun _ => .int 0)) := by
  induction i with
  | zero =>
    refine ⟨by simp [mu_s], by simp [mu_s], rfl, by simp [mu_s, arrV_size], fun a ha => ?_, fun j hj => absurd hj (Nat.not_lt_zero _)⟩
    exact State.heap_pushCell_of_lt _ _ ha
  | succ i ih =>
    obtain ⟨f1, f2, f3, f4, f5, f6⟩ := ih
    have hlt : s.heap.size < (mu_s s c comp N M i).heap.size := by omega
    have hc : ((mu_s s c comp N M i).pushCell (arrV comp M (fun _ => .int 0))).heap[s.heap.size]? = some (arrV c N (mu_v s.heap.size i)) := by
      rw [State.heap_pushCell_of_lt (h := hlt)]; exact f2
    refine ⟨?_, State.heap_setCell_self hc, by simp [mu_s, f3], ?_, fun a ha => ?_, fun j hj => ?_⟩
    · simp [mu_s, State.setCell, f1]; omega
    · simp [mu_s, f4, arrV_size, Nat.succ_mul]; omega
    · show (((mu_s s c comp N M i).pushCell _).setCell s.heap.size _).heap[a]? = _
      have hla : a < (mu_s s c comp N M i).heap.size := by omega
      rw [State.heap_setCell_other (Nat.ne_of_gt ha), State.heap_pushCell_of_lt (h := hla)]
      exact f5 a ha
    · show (((mu_s s c comp N M i).pushCell _).setCell s.heap.size _).heap[s.heap.size + 1 + j]? = _
      rw [State.heap_setCell_other (show s.heap.size ≠ s.heap.size + 1 + j by omega)]
      by_cases hj' : j < i
      · have hlj : s.heap.size + 1 + j < (mu_s s c comp N M i).heap.size := by omega
        rw [State.heap_pushCell_of_lt (h := hlj)]
        exact f6 j hj'
      · have e : j = i := by omega
        subst e
        rw [← f1]
        exact State.heap_pushCell_size _ _
theorem mu_top (s : State) (f : JFrame) (c comp : ClassId) (N M : Nat) (i : Nat) : mu_s (s.setTop f) c comp N M i = (mu_s s c comp N M i).setTop f := by
  induction i with
  | zero => rfl
  | succ i ih => simp only [mu_s, ih, State.heap_setTop, State.pushCell_setTop, State.setCell_setTop]
section MuW
variable {E : CtlPost} {e : Env} {d : Bool} {acts : List Action} {s : State}
theorem mu_new {c comp : ClassId} {k : Class} {type : FieldType} {len : Nat} {init : Value} (hk : s.vm.classes[c]? = some k) (hkind : k.kind = .array comp type) (hl : ¬ len > e.platform.arrayLengthLimit) (hh : ¬ len * componentBytes type > e.platform.maxHeapBytes) (hf : fits type init = true) (hd : init.isDefault = true) {Q : Addr → Pre} (h1 : s.heap.size < e.platform.maxCells) (h2 : s.slotsUsed + len ≤ e.platform.maxSlots)
    (hq : Q s.heap.size d acts (s.pushCell (arrV c len (fun _ => init)))) : wp (Jvm.newArray c len init) Q E e d acts s := by
  have hfs : ∀ i v, (Array.replicate len init)[i]? = some v → s.fitsSlot c .none i v = true := by
    intro i v hv
    simp only [Array.getElem?_replicate] at hv
    split at hv
    · cases hv; simp [State.fitsSlot, State.slotType?, hk, hkind, hf]
    · cases hv
  have hda : allocActs (Array.replicate len init) s.heap.size acts = acts := by
    have hall : ((Array.replicate len init).all (·.isDefault)) = true := by
      rw [Array.all_replicate]; split <;> simp [hd]
    unfold allocActs; rw [if_pos hall]
  simp only [Jvm.newArray, Jvm.arrayFits, wp_bind', W.ask, W.ite, hl, if_false, wp_pure', W.theClass, hk, hkind, hh, W.alloc, W.stop, Option.some.injEq, exists_eq_left', Array.size_replicate, hda]
  rw [if_neg (by omega)]
  refine ⟨h1, h2, hfs, ?_⟩
  rw [← arrV_new] at hq
  exact hq
/-- the inner rows, one after the other -/
theorem mu_make {c comp c3 : ClassId} {k kc : Class} {n m : Int32} {N M : Nat} (hn : n.toNatClampNeg = N) (hm : m.toNatClampNeg = M) (hk : s.vm.classes[c]? = some k) (hkind : k.kind = .array comp (.array .int)) (hkc : s.vm.classes[comp]? = some kc) (hkindc : kc.kind = .array c3 .int) (hn0 : ¬ n < 0) (hm0 : ¬ m < 0)
    (hl1 : ¬ N > e.platform.arrayLengthLimit) (hh1 : ¬ N * componentBytes (.array .int) > e.platform.maxHeapBytes) (hl2 : ¬ M > e.platform.arrayLengthLimit) (hh2 : ¬ M * componentBytes .int > e.platform.maxHeapBytes)
    (hc : s.heap.size + 1 + N ≤ e.platform.maxCells) (hs : s.slotsUsed + N + N * M ≤ e.platform.maxSlots) {Q : Addr → Pre} (hq : ∀ d' acts', Q s.heap.size d' acts' (mu_s s c comp N M N)) : wp (multianewarray.make c [n, m]) Q E e d acts s := by
  subst hn; subst hm
  have hfi : ([m].find? (· < 0)) = none := by simp [hm0]
  rw [multianewarray.make]
  simp only [wp_bind', W.ite, hn0, if_false, wp_pure', W.theClass, hk, hkind, Option.some.injEq, exists_eq_left']
  refine mu_new hk hkind hl1 hh1 rfl rfl (by omega) (by have := Nat.zero_le (n.toNatClampNeg * m.toNatClampNeg); omega) ?_
  simp only [hfi]
  rw [ite_self, wp_bind', Std.Legacy.Range.forIn_eq_forIn_range']
  rw [show ([:n.toNatClampNeg] : Std.Legacy.Range).size = n.toNatClampNeg from by simp [Std.Legacy.Range.size]]
  show wp (forIn (List.range' 0 n.toNatClampNeg 1) PUnit.unit _) _ E e d acts _
  have e0 : s.pushCell (arrV c n.toNatClampNeg (fun _ => .null)) = mu_s s c comp n.toNatClampNeg m.toNatClampNeg 0 := by
    show _ = s.pushCell (arrV c n.toNatClampNeg (mu_v s.heap.size 0))
    congr 2
  refine wp_forIn_inv (fun rest s' => ∃ i, i ≤ n.toNatClampNeg ∧ rest = List.range' i (n.toNatClampNeg - i) ∧ s' = mu_s s c comp n.toNatClampNeg m.toNatClampNeg i) _ _ ⟨0, Nat.zero_le _, rfl, e0⟩ ?_ ?_
  · rintro x rest s' d' acts' Q' ⟨i, hi, hl, rfl⟩ hnext
    have hlt : i < n.toNatClampNeg := by
      rcases Nat.lt_or_ge i n.toNatClampNeg with h | h
      · exact h
      · rw [show n.toNatClampNeg - i = 0 from by omega] at hl; simp at hl
    obtain ⟨rfl, hrest⟩ : x = i ∧ rest = List.range' (i + 1) (n.toNatClampNeg - (i + 1)) := by
      rw [show n.toNatClampNeg - i = (n.toNatClampNeg - (i + 1)) + 1 from by omega, List.range'_succ] at hl
      exact ⟨(List.cons.inj hl).1, (List.cons.inj hl).2⟩
    obtain ⟨f1, f2, f3, f4, -, -⟩ := mu_at s c comp n.toNatClampNeg m.toNatClampNeg x
    have hmul : x * m.toNatClampNeg + m.toNatClampNeg ≤ n.toNatClampNeg * m.toNatClampNeg := by
      have := Nat.mul_le_mul_right m.toNatClampNeg (show x + 1 ≤ n.toNatClampNeg from hlt)
      rw [Nat.succ_mul] at this; exact this
    simp only [wp_bind']
    rw [multianewarray.make]
    simp only [wp_bind', W.ite, hm0, if_false, wp_pure', W.theClass, f3, hkc, hkindc, Option.some.injEq, exists_eq_left']
    refine mu_new (by rw [f3]; exact hkc) hkindc hl2 hh2 rfl rfl (by rw [f1]; omega) (by rw [f4]; omega) ?_
    have hlt0 : s.heap.size < (mu_s s c comp n.toNatClampNeg m.toNatClampNeg x).heap.size := by rw [f1]; omega
    simp only [wp_bind', W.writeLoc, wp_pure']
    refine ⟨arrV c n.toNatClampNeg (mu_v s.heap.size x), by rw [State.heap_pushCell_of_lt (h := hlt0)]; exact f2, (by intro h; cases h), by rw [arrV_size]; exact hlt, ?_, hnext _ _ _ ⟨x + 1, hlt, hrest, ?_⟩⟩
    · simp [State.fitsSlot, State.slotType?, arrV, f3, hk, hkind, fits]
    · rw [f1, arrV_store, mu_vS]; rfl
  · rintro s' d' acts' ⟨i, hi, hl, rfl⟩
    have hiN : i = n.toNatClampNeg := by
      rcases Nat.lt_or_ge i n.toNatClampNeg with h | h
      · rw [show n.toNatClampNeg - i = (n.toNatClampNeg - (i + 1)) + 1 from by omega, List.range'_succ] at hl; cases hl
      · omega
    subst hiN
    simp only [wp_pure']
    exact hq _ _
end MuW
section MuS
variable {p : Program} {l : Launch} {e : Env} {R : Room} {s : State} {m : MethodId} {args : Array Value} {below : List Frame} {meth : Method} {c : Code} {H : Heap} {locs : List Loc} {cells slots : Nat} {Q : State → Prop}
theorem mu_stand {T : State} (X : Stand p l e R s m args below meth c T locs cells slots) (cA comp : ClassId) (N M : Nat) (i : Nat) : Stand p l e R s m args below meth c (mu_s T cA comp N M i) (locs ++ (List.range i).map fun j => ⟨T.heap.size, j⟩) (cells + 1 + i) (slots + N + i * M) := by
  induction i with
  | zero =>
    have h := X.pushed (arrV cA N (mu_v T.heap.size 0))
    rw [arrV_size] at h
    simpa [mu_s] using h
  | succ i ih =>
    obtain ⟨f1, f2, f3, f4, -, -⟩ := mu_at T cA comp N M i
    have hlt0 : T.heap.size < (mu_s T cA comp N M i).heap.size := by rw [f1]; omega
    have hcell : ((mu_s T cA comp N M i).pushCell (arrV comp M (fun _ => .int 0))).heap[T.heap.size]? = some (arrV cA N (mu_v T.heap.size i)) := by rw [State.heap_pushCell_of_lt (h := hlt0)]; exact f2
    have h := (ih.pushed (arrV comp M (fun _ => .int 0))).stored hcell i (.ref (T.heap.size + 1 + i))
    rw [arrV_size, arrV_store, mu_vS] at h
    have e2 : (locs ++ (List.range (i + 1)).map fun j => (⟨T.heap.size, j⟩ : Loc)) = (locs ++ (List.range i).map fun j => (⟨T.heap.size, j⟩ : Loc)) ++ [⟨T.heap.size, i⟩] := by simp [List.range_succ, List.append_assoc]
    have e3 : slots + N + (i + 1) * M = slots + N + i * M + M := by rw [Nat.succ_mul]; omega
    rw [e2, e3]
    exact h
theorem mu_W {cc : ByteArray} (hexec : p.tables.exec = Jvm.exec) (hb : c.code = cc) {own : String} {index : Nat} (hown : s.vm.findClass own = some m.cls) (hclink : (Cond.classLink own index ("[" ++ (FieldType.array .int).toString)).before args s = true) (hover : (Cond.arrayOver (.array .int)).before args s = true) (harr : (Cond.arrayClass .int).before args s = true)
    {g : JFrame} (hg : g.method = m) (hdg : decode cc g.pc = .ok (.multianewarray index 2, 4)) {n k : Int32} {N M : Nat} {rest : List Value} (hstack : g.stack = .int k :: .int n :: rest) (hn : n.toNatClampNeg = N) (hm : k.toNatClampNeg = M) (hn0 : ¬ n < 0) (hk0 : ¬ k < 0) (hN : N < 2 ^ 20) (hM : M < 2 ^ 20) (hcells : cells + (1 + N) ≤ R.cells) (hslots : slots + (N + N * M) ≤ R.slots)
    (kk : ∀ (H' : Heap) (cA comp : ClassId), H'.size = H.size + 1 + N → H'[H.size]? = some (arrV cA N (mu_v H.size N)) → (∀ a : Nat, a < H.size → H'[a]? = H[a]?) → (∀ j, j < N → H'[H.size + 1 + j]? = some (arrV comp M (fun _ => .int 0))) → ArrOfT s cA (.array .int) → ArrOfT s comp .int →
      W p l e R s m args below meth c H' (locs ++ (List.range N).map fun j => ⟨H.size, j⟩) (cells + 1 + N) (slots + N + N * M) Q { g with pc := g.pc + 4, stack := .ref H.size :: rest }) : W p l e R s m args below meth c H locs cells slots Q g := by
  intro T hT X
  subst hT; subst hb; subst hg
  have hpl : e.platform.magicAccessors = ({} : Platform).magicAccessors := by rw [X.admits.platform]
  obtain ⟨comp, cA, kA, hcomp, -, hkA, hkindA, hnameA⟩ := arrayOverA_spec hover
  obtain ⟨comp', kC, c3, hcomp', hkC, hkindC⟩ := Cond.arrayClass_spec harr
  have ecomp : comp' = comp := Option.some.inj (hcomp'.symm.trans hcomp)
  subst ecomp
  obtain ⟨c0, hfc0, hcl⟩ := Cond.classLink_spec hown hclink e.platform hpl
  cases hnameA.symm.trans hfc0
  obtain ⟨hg₁, hwarm₁, hready₁⟩ := State.classEntry (e := e) X.warmed hcl
  generalize T.vm.noted g.method.cls index (.cls cA) = vm₁ at hg₁ hwarm₁ hready₁
  have hal : s.vm.Alike vm₁ := hwarm₁.alike
  obtain ⟨kA₁, hkA₁, heA⟩ := hal.2.2 _ _ hkA
  obtain ⟨kC₁, hkC₁, heC⟩ := hal.2.2 _ _ hkC
  have hkindA₁ : kA₁.kind = .array comp' (.array .int) := by rw [heA]; exact hkindA
  have hkindC₁ : kC₁.kind = .array c3 .int := by rw [heC]; exact hkindC
  have X₁ := X.noted hwarm₁
  obtain ⟨hr1, hr2⟩ := X.roomAbove hcells hslots
  have XF := mu_stand X₁ cA comp' N M N
  obtain ⟨f1, f2, -, -, f5, f6⟩ := mu_at (T.setVm vm₁) cA comp' N M N
  obtain ⟨t', a1, b1⟩ := kk (mu_s (T.setVm vm₁) cA comp' N M N).heap cA comp' f1 f2 f5 f6 (fun n z => ⟨fun k h => (by cases h), kA, hkA, comp', hkindA⟩) (fun n z => ⟨fun k h => (by cases h), kC, hkC, c3, hkindC⟩) (mu_s (T.setVm vm₁) cA comp' N M N) rfl XF
  refine ⟨t', ?_, b1⟩
  have hl1 : ¬ N > e.platform.arrayLengthLimit := by rw [Launch.admits_arrayLengthLimit X.admits]; omega
  have hh1 : ¬ N * componentBytes (.array .int) > e.platform.maxHeapBytes := by
    rw [Launch.admits_maxHeapBytes X.admits]; show ¬ N * 4 > 536870912; omega
  have hl2 : ¬ M > e.platform.arrayLengthLimit := by rw [Launch.admits_arrayLengthLimit X.admits]; omega
  have hh2 : ¬ M * componentBytes .int > e.platform.maxHeapBytes := by
    rw [Launch.admits_maxHeapBytes X.admits]; show ¬ M * 4 > 536870912; omega
  jvm_step X.here [hexec, hdg]
  simp only [multianewarray.sem, wp_bind', W.resolveClassAt_links (State.method?_setTop g X.here.top) hg₁]
  rw [W.popN, if_neg (by decide)]
  refine ⟨g, State.topJava?_setTop' (s := T.setVm vm₁) g X.here.top, [.int n, .int k], rest, rfl, hstack, ?_⟩
  simp only [List.mapM_cons, List.mapM_nil, wp_bind', wp_pure']
  refine mu_make (k := kA₁) (kc := kC₁) (comp := comp') (c3 := c3) hn hm hkA₁ hkindA₁ hkC₁ hkindC₁ hn0 hk0 hl1 hh1 hl2 hh2 (by show T.heap.size + 1 + _ ≤ _; omega) (by show T.slotsUsed + _ + _ ≤ _; omega) (fun d' acts' => ?_)
  have eS : ((T.setTop g).setVm vm₁).setTop { g with stack := rest } = (T.setVm vm₁).setTop { g with stack := rest } := by
    show ((T.setVm vm₁).setTop g).setTop _ = _
    rw [State.setTop_setTop]
  rw [eS, mu_top]
  simp only [wp_bind', W.mark, W.pushRef, State.topJava?_setTop' _ XF.here.top, Option.some.injEq, exists_eq_left', State.setTop_setTop, State.heap_setTop]
  intro acts
  simp [jvm, XF.here.top]
  exact a1
end MuS
