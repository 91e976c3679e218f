/-! ===== calls over hX ===== -/
section HXK
variable {z : hZ} {own : String} {cc : ByteArray} {cells slots pc : Nat} {G : hG} {lv lv' : List (Nat × Value)} {rest : List Value}
variable {y : MethodName} {cy : ByteArray} {nL index n : Nat} {ret : Option FieldType} {rm : Room} {As : List Value} {post : Option Value → hG → Prop} {st0 : List Value}
abbrev hPc (a0 : Nat) (D : va_G) (sa : Nat → Nat) (av : List Value) (G : hG) : Array Value → State → Prop := va_Pc av (fun U => HR U D G U.heap ∧ hKs D a0 sa U U.heap ∧ a0 ≤ U.heap.size)
abbrev hQc (a0 : Nat) (D : va_G) (post : Option Value → hG → Prop) : Array Value → State → Outcome → State → Prop := fun _ st oc t => (∃ (v : Option Value) (G' : hG), oc = .returned v ∧ post v G' ∧ HR t D G' t.heap) ∧ va_F (fun q => a0 ≤ q) st t
theorem hPc.blind {a0 : Nat} {D : va_G} {sa : Nat → Nat} {av : List Value} : FrameBlind (hPc a0 D sa av G) := fun a U g mk q => ⟨q.1, q.2.1.moved (Vm.Alike.refl U.vm), hKs.same (u := U) (U := U.calling g mk a) (H := U.heap) rfl q.2.2.1, q.2.2.2⟩
theorem hPc.there (C : hC z own cc) {H : Heap} {locs : List Loc} (h1 : HR (zs z) (zD z) G H) (h2 : va_S (fun q => z0 z ≤ q) (zs z).heap H locs) {av : List Value} : ∀ U : State, U.heap = H → (zs z).WarmedH U.vm → hPc (z0 z) (zD z) (zS z) av G av.toArray U := by
  intro U hU hW
  refine ⟨rfl, by rw [hU]; exact h1.moved hW.alike, ?_, ?_⟩
  · rw [hU]
    exact (C.2.2.2.2.2.1.kept (fun a h n => h2.2.1 a h n)).moved hW
  · rw [hU]
    exact Nat.le_trans C.2.2.2.2.2.2 h2.1
theorem hgo (C : hC z own cc) {H : Heap} {locs : List Loc} {ls : Array Slot} {a : Array Value} (h2 : va_S (fun q => z0 z ≤ q) (zs z).heap H locs) (h3 : lv_has ls (zn z) lv)
    (hr : va_Run (zp z) (zl z) (ze z) (zR z) (zs z) (zm z) (za z) (zb z) (zM z) (zc z) H locs cells slots rm.cells rm.slots (F0 (zm z) pc ls st0) rest (hQc (z0 z) (zD z) post a) (fun q => z0 z ≤ q))
    (kk : ∀ (v : Option Value) (G' : hG), post v G' → hX z (cells + rm.cells) (slots + rm.slots) G' lv (pc + 3) (v.toList ++ rest)) : zW z H locs cells slots pc ls st0 := by
  intro T hT X
  obtain ⟨v, st₀, t, T', L, g0, X', hL, e1, e2, ⟨⟨v', G', hv, hp, hb⟩, hz, hk⟩, st⟩ := hr T hT X
  cases hv
  have hal : t.vm.Alike (zs z).vm := by rw [← e2]; exact X'.warmed.alike.symm
  obtain ⟨t2, a1, b1⟩ := kk v G' hp t.heap (locs ++ L) ls (hb.moved hal) ⟨Nat.le_trans h2.1 (by rw [g0] at hz; exact hz), fun q q1 q2 => by
      rw [hk q (by rw [g0]; exact Nat.lt_of_lt_of_le q1 h2.1) q2, g0]
      exact h2.2.1 q q1 q2, fun q hq => (List.mem_append.mp hq).elim (h2.2.2 q) (hL q)⟩ h3 T' e1 X'
  exact ⟨t2, st t2 a1, b1⟩
theorem x_callV (C : hC z own cc) {b : Nat} (hm : hM (zl z) (z0 z) (zD z) (zS z) y cy nL ret rm (.ref (gA G b) :: As) G post) (f : hMv y cy nL ret n) (hl : Cond.methodLink own index y ∈ lw_g) {ci : Nat} (hT : G.1 b = some (.inr ci)) (hci : vwCl[ci]?.map (fun w => w.1) = some y.cls) (hn : As.length = n) (hst : st0 = As.reverse ++ .ref (gA G b) :: rest) (hw : (rest.map fun v => v.category).sum ≤ 8)
    (hR : rm.frames + 1 ≤ (zR z).frames ∧ 8 + (nL + 11) + rm.locals ≤ (zR z).locals) (hf : cells + rm.cells ≤ (zR z).cells ∧ slots + rm.slots ≤ (zR z).slots) (d : decode cc pc = .ok (.invokevirtual index, 3))
    (kk : ∀ (v : Option Value) (G' : hG), post v G' → hX z (cells + rm.cells) (slots + rm.slots) G' lv (pc + 3) (v.toList ++ rest)) : hX z cells slots G lv pc st0 := by
  intro H locs ls h1 h2 h3
  obtain ⟨⟨hc, hini, hd⟩, hin, hse⟩ := f
  obtain ⟨w, hw', ce, q1, q2, q3, -⟩ := h1.1 b _ hT
  rw [hw'] at hci
  have hcn : w.1 = y.cls := Option.some.inj hci
  have ht := C.2.2.2.2.1
  refine hgo C h2 h3 (va_runV (Pc := hPc (z0 z) (zD z) (zS z) (.ref (gA G b) :: As) G) (C := y.cls) ⟨C.1, C.2.1, C.2.2.1, C.2.2.2.1, ht⟩ hm ⟨callB_of n ht (lw_goodc hc) rfl rfl rfl (ht _ hini) (ht _ hl) hd hR, ht _ hin, ht _ hse⟩ ⟨hPc.blind, ⟨ce, q1, by rw [q3]; rfl, ?_⟩, hPc.there C h1 h2⟩ rfl hn h3.1 hst (lv_room hw) d hf) kk
  rw [q2, ← hcn]
  exact (C.2.2.2.2.2.1.1.1 ci _ hw').2.1
theorem x_callS (C : hC z own cc) (hm : hM (zl z) (z0 z) (zD z) (zS z) y cy nL ret rm As G post) (f : hMs y cy nL ret n) (hl : Cond.methodLink own index y ∈ lw_g) (hn : As.length = n) (hst : st0 = As.reverse ++ rest) (hw : (rest.map fun v => v.category).sum ≤ 8)
    (hR : rm.frames + 1 ≤ (zR z).frames ∧ 8 + (nL + 11) + rm.locals ≤ (zR z).locals) (hf : cells + rm.cells ≤ (zR z).cells ∧ slots + rm.slots ≤ (zR z).slots) (d : decode cc pc = .ok (.invokestatic index, 3))
    (kk : ∀ (v : Option Value) (G' : hG), post v G' → hX z (cells + rm.cells) (slots + rm.slots) G' lv (pc + 3) (v.toList ++ rest)) : hX z cells slots G lv pc st0 := by
  intro H locs ls h1 h2 h3
  obtain ⟨⟨hc, hini, hd⟩, hs⟩ := f
  have ht := C.2.2.2.2.1
  exact hgo C h2 h3 (va_runS (Pc := hPc (z0 z) (zD z) (zS z) As G) ⟨C.1, C.2.1, C.2.2.1, C.2.2.2.1, ht⟩ hm ⟨callB_of n ht (lw_goodc hc) rfl rfl rfl (ht _ hini) (ht _ hl) hd hR, ht _ hs⟩ ⟨hPc.blind, hPc.there C h1 h2⟩ rfl hn h3.1 hst (lv_room hw) d hf) kk
theorem x_callSN (C : hC z own cc) {host : String} (hm : hM (zl z) (z0 z) (zD z) (zS z) y cy nL ret rm As G post) (f : hMs y cy nL ret n) (hl : Cond.methodLinkNest own index y host ∈ lw_n) (hn : As.length = n) (hst : st0 = As.reverse ++ rest) (hw : (rest.map fun v => v.category).sum ≤ 8)
    (hR : rm.frames + 1 ≤ (zR z).frames ∧ 8 + (nL + 11) + rm.locals ≤ (zR z).locals) (hf : cells + rm.cells ≤ (zR z).cells ∧ slots + rm.slots ≤ (zR z).slots) (d : decode cc pc = .ok (.invokestatic index, 3))
    (kk : ∀ (v : Option Value) (G' : hG), post v G' → hX z (cells + rm.cells) (slots + rm.slots) G' lv (pc + 3) (v.toList ++ rest)) : hX z cells slots G lv pc st0 := by
  intro H locs ls h1 h2 h3
  obtain ⟨⟨hc, hini, hd⟩, hs⟩ := f
  have ht := C.2.2.2.2.1
  exact hgo C h2 h3 (va_runSN (Pc := hPc (z0 z) (zD z) (zS z) As G) ⟨C.1, C.2.1, C.2.2.1, C.2.2.2.1, ht⟩ hm ⟨va_cnB n ht (lw_goodc hc) rfl rfl rfl (C.2.2.2.2.2.1.2.2.1 _ hl) (ht _ hini) hd hR, ht _ hs, trivial⟩ ⟨hPc.blind, hPc.there C h1 h2⟩ rfl hn h3.1 hst (lv_room hw) d hf) kk
theorem x_callI (C : hC z own cc) {b : Nat} (hm : hM (zl z) (z0 z) (zD z) (zS z) y cy nL none rm (.ref (gA G b) :: As) G post) (f : hMi y cy nL n) (hl : Cond.methodLink own index y ∈ lw_g) (hn : As.length = n) (hst : st0 = As.reverse ++ .ref (gA G b) :: rest) (hw : (rest.map fun v => v.category).sum ≤ 8)
    (hR : rm.frames + 1 ≤ (zR z).frames ∧ 8 + (nL + 11) + rm.locals ≤ (zR z).locals) (hf : cells + rm.cells ≤ (zR z).cells ∧ slots + rm.slots ≤ (zR z).slots) (d : decode cc pc = .ok (.invokespecial index, 3))
    (kk : ∀ (v : Option Value) (G' : hG), post v G' → hX z (cells + rm.cells) (slots + rm.slots) G' lv (pc + 3) (v.toList ++ rest)) : hX z cells slots G lv pc st0 := by
  intro H locs ls h1 h2 h3
  obtain ⟨⟨hc, hini, hd⟩, hy, hin⟩ := f
  have ht := C.2.2.2.2.1
  exact hgo C h2 h3 (va_runI (Pc := hPc (z0 z) (zD z) (zS z) (.ref (gA G b) :: As) G) ⟨C.1, C.2.1, C.2.2.1, C.2.2.2.1, ht⟩ hm ⟨callB_of n ht (lw_goodc hc) rfl rfl rfl (ht _ hini) (ht _ hl) hd hR, hy, ht _ hin⟩ ⟨hPc.blind, hPc.there C h1 h2⟩ rfl hn h3.1 hst (lv_room hw) d hf) kk
theorem x_callIN (C : hC z own cc) {b : Nat} {host : String} (hm : hM (zl z) (z0 z) (zD z) (zS z) y cy nL none rm (.ref (gA G b) :: As) G post) (f : hMi y cy nL n) (hl : Cond.methodLinkNest own index y host ∈ lw_n) (hn : As.length = n) (hst : st0 = As.reverse ++ .ref (gA G b) :: rest) (hw : (rest.map fun v => v.category).sum ≤ 8)
    (hR : rm.frames + 1 ≤ (zR z).frames ∧ 8 + (nL + 11) + rm.locals ≤ (zR z).locals) (hf : cells + rm.cells ≤ (zR z).cells ∧ slots + rm.slots ≤ (zR z).slots) (d : decode cc pc = .ok (.invokespecial index, 3))
    (kk : ∀ (v : Option Value) (G' : hG), post v G' → hX z (cells + rm.cells) (slots + rm.slots) G' lv (pc + 3) (v.toList ++ rest)) : hX z cells slots G lv pc st0 := by
  intro H locs ls h1 h2 h3
  obtain ⟨⟨hc, hini, hd⟩, hy, hin⟩ := f
  have ht := C.2.2.2.2.1
  exact hgo C h2 h3 (va_runIN (Pc := hPc (z0 z) (zD z) (zS z) (.ref (gA G b) :: As) G) ⟨C.1, C.2.1, C.2.2.1, C.2.2.2.1, ht⟩ hm ⟨va_cnB n ht (lw_goodc hc) rfl rfl rfl (C.2.2.2.2.2.1.2.2.1 _ hl) (ht _ hini) hd hR, hy, ht _ hin⟩ ⟨hPc.blind, hPc.there C h1 h2⟩ rfl hn h3.1 hst (lv_room hw) d hf) kk
theorem x_objInit (C : hC z own cc) {index a : Nat} (hl : Cond.methodLink own index Lib.objectInit ∈ lw_g) (hi : Cond.instanceMethod Lib.objectInit ∈ lw_g) (hc : Cond.code Lib.objectInit ⟨#[0xb1]⟩ 1 none ∈ lw_g) (hR : 1 ≤ (zR z).frames ∧ (rest.map fun v => v.category).sum + 12 ≤ (zR z).locals) (d : decode cc pc = .ok (.invokespecial index, 3)) (kk : hX z cells slots G lv (pc + 3) rest) : hX z cells slots G lv pc (.ref a :: rest) := by
  intro H locs ls h1 h2 h3
  have ht := C.2.2.2.2.1
  exact W.objInit C.1 C.2.1 C.2.2.2.1 (ht _ hl) (ht _ hi) (ht _ hc) rfl (by rw [C.2.2.1]; exact h3.1) rfl d hR.1 (by show 2 * 0 + _ + 12 ≤ _; omega) (kk H locs ls h1 h2 h3)
theorem x_gets (C : hC z own cc) {index k : Nat} {q : String × String} (hq : hSt[k]? = some q) (hl : Cond.fieldLink own index q.1 q.2 "[I" ∈ lw_g) (d : decode cc pc = .ok (.getstatic index, 3)) (kk : hX z cells slots G lv (pc + 3) (.ref (zS z k) :: rest)) : hX z cells slots G lv pc rest := by
  intro H locs ls h1 h2 h3
  exact va_gets C.1 C.2.1 (C.2.2.2.2.2.1.2.1 k q hq) h2 C.2.2.2.1 (C.2.2.2.2.1 _ hl) (fun _ h => h) d (kk H locs ls h1 h2 h3)
end HXK
