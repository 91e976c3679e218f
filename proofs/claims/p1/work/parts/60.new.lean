/-! ===== making cells ===== -/
/-- the heap with a new cell: its number, its kind, its address -/
def gNw (G : hG) (k : Nat) (kd : hKd) (a : Nat) : hG := (va_up G.1 k (some kd), va_up G.2.1 k (fun _ => 0), va_up G.2.2.1 k (fun _ => 0), va_up G.2.2.2.1 k (fun _ => none), va_up G.2.2.2.2 k a)
/-- a number that is not in use -/
def nou (G : hG) (k : Nat) : Prop := G.1 k = none ∧ ∀ p j, G.2.2.2.1 p j ≠ some k
theorem HR.new {U : State} {D : va_G} {G : hG} {H H1 : Heap} {k a : Nat} {kd : hKd} (h : HR U D G H) (hk : nou G k) (ha : a = H.size) (o : ∀ q : Nat, q < H.size → H1[q]? = H[q]?) (hn : hat U D kd (fun _ => 0) (fun _ => 0) (fun _ => none) a H1) : HR U D (gNw G k kd a) H1 := by
  have hlt : ∀ q, G.1 q ≠ none → G.2.2.2.2 q < H.size := by
    intro q hq
    cases e : G.1 q with
    | none => exact absurd e hq
    | some k' => exact (h.1 q k' e).lt
  refine ⟨fun q k' e => ?_, fun i j hi hj he => ?_⟩
  · by_cases hq : q = k
    · subst hq
      have e2 : kd = k' := by simpa [gNw, va_up] using e
      subst e2
      have e3 : (fun j => ((gNw G q kd a).2.2.2.1 q j).map (gNw G q kd a).2.2.2.2) = fun _ => none := by
        funext j; simp [gNw, va_up]
      rw [e3]
      simpa [gNw, va_up] using hn
    · have e2 : G.1 q = some k' := by simpa [gNw, va_up, hq] using e
      have h0 := h.1 q k' e2
      have e3 : (fun j => ((gNw G k kd a).2.2.2.1 q j).map (gNw G k kd a).2.2.2.2) = fun j => (G.2.2.2.1 q j).map G.2.2.2.2 := by
        funext j
        show (va_up G.2.2.2.1 k _ q j).map (va_up G.2.2.2.2 k a) = _
        rw [va_up_other _ _ hq]
        cases e4 : G.2.2.2.1 q j with
        | none => rfl
        | some r =>
          have hr : r ≠ k := fun e5 => hk.2 q j (by rw [e4, e5])
          simp [va_up, hr]
      rw [e3, show (gNw G k kd a).2.1 q = G.2.1 q from va_up_other _ _ hq, show (gNw G k kd a).2.2.1 q = G.2.2.1 q from va_up_other _ _ hq, show (gNw G k kd a).2.2.2.2 q = G.2.2.2.2 q from va_up_other _ _ hq]
      exact h0.kept (o _ h0.lt)
  · by_cases h1 : i = k
    · by_cases h2 : j = k
      · rw [h1, h2]
      · exfalso
        have hj' : G.1 j ≠ none := by simpa [gNw, va_up, h2] using hj
        have := hlt j hj'
        rw [show (gNw G k kd a).2.2.2.2 j = G.2.2.2.2 j from va_up_other _ _ h2, h1, show (gNw G k kd a).2.2.2.2 k = a from va_up_same _ _ _] at he
        omega
    · by_cases h2 : j = k
      · exfalso
        have hi' : G.1 i ≠ none := by simpa [gNw, va_up, h1] using hi
        have := hlt i hi'
        rw [show (gNw G k kd a).2.2.2.2 i = G.2.2.2.2 i from va_up_other _ _ h1, h2, show (gNw G k kd a).2.2.2.2 k = a from va_up_same _ _ _] at he
        omega
      · refine h.2 i j (by simpa [gNw, va_up, h1] using hi) (by simpa [gNw, va_up, h2] using hj) ?_
        rw [show (gNw G k kd a).2.2.2.2 i = G.2.2.2.2 i from va_up_other _ _ h1, show (gNw G k kd a).2.2.2.2 j = G.2.2.2.2 j from va_up_other _ _ h2] at he
        exact he
def hok (t : FieldType) : Bool := match t with
  | .int => true | .boolean => true | .object _ => true | .array _ => true | _ => false
theorem hok_df {t : FieldType} (h : hok t = true) : defaultValue t = if hrf t then va_rf none else .int 0 := by
  cases t <;> first | rfl | (simp [hok] at h; done)
section HXA
variable {z : hZ} {own : String} {cc : ByteArray} {cells slots pc : Nat} {G : hG} {lv lv' : List (Nat × Value)} {rest : List Value}
theorem hSp {H H1 : Heap} {locs : List Loc} (h2 : va_S (fun q => z0 z ≤ q) (zs z).heap H locs) (hz : H1.size = H.size + 1) (o : ∀ q : Nat, q < H.size → H1[q]? = H[q]?) : va_S (fun q => z0 z ≤ q) (zs z).heap H1 locs := ⟨Nat.le_trans h2.1 (by omega), fun x g1 g2 => (o x (Nat.lt_of_lt_of_le g1 h2.1)).trans (h2.2.1 x g1 g2), h2.2.2⟩
theorem x_newa (C : hC z own cc) {k N : Nat} {atype : ArrayType} (hu : nou G k) (h3t : atype = .int ∨ atype = .long ∨ atype = .boolean) (harr : Cond.arrayClass (newarray.typeOf atype) ∈ lw_g) (hN : N < 2 ^ 20) (hc : cells + 1 ≤ (zR z).cells) (hs : slots + N ≤ (zR z).slots) (d : decode cc pc = .ok (.newarray atype, 2))
    (kk : ∀ a, z0 z ≤ a → hX z (cells + 1) (slots + N) (gNw G k (.inl (newarray.typeOf atype, N)) a) lv (pc + 2) (.ref a :: rest)) : hX z cells slots G lv pc (.int (nI N) :: rest) := by
  intro H locs ls h1 h2 h3
  have hb : N * componentBytes (newarray.typeOf atype) ≤ 536870912 := by
    rcases h3t with rfl | rfl | rfl
    · show N * 4 ≤ _; omega
    · show N * 8 ≤ _; omega
    · show N * 1 ≤ _; omega
  refine va_newaK C.1 C.2.1 (C.2.2.2.2.1 _ harr) rfl d rfl (nI_pos (by omega)) (nI_clamp (by omega)) hb hc hs rfl fun H1 cA e1 z1 o1 hAr hNm => ?_
  refine kk H.size (Nat.le_trans C.2.2.2.2.2.2 h2.1) H1 locs ls (h1.new hu rfl o1 ⟨_, e1, hAr N _, (by intro e; cases e), arrV_size _ _ _, fun j hj => ?_, ?_⟩) (hSp h2 z1 o1) h3
  · rw [arrV_read _ _ hj]
    rcases h3t with rfl | rfl | rfl <;> rfl
  · intro C' e
    rcases h3t with rfl | rfl | rfl <;> cases e
theorem x_anew (C : hC z own cc) {k N index : Nat} {Cn : String} (hu : nou G k) (hl : Cond.classLink own index Cn ∈ lw_g) (hao : FieldType.object Cn ∈ lw_ao) (hN : N < 2 ^ 20) (hc : cells + 1 ≤ (zR z).cells) (hs : slots + N ≤ (zR z).slots) (d : decode cc pc = .ok (.anewarray index, 3))
    (kk : ∀ a, z0 z ≤ a → hX z (cells + 1) (slots + N) (gNw G k (.inl (.object Cn, N)) a) lv (pc + 3) (.ref a :: rest)) : hX z cells slots G lv pc (.int (nI N) :: rest) := by
  intro H locs ls h1 h2 h3
  have hov : (Cond.arrayOver (.object Cn)).before (za z) (zs z) = true := C.2.2.2.2.2.1.2.2.2.1 _ hao
  refine W.anew C.1 C.2.1 C.2.2.2.1 (C.2.2.2.2.1 _ hl) hov rfl d rfl (nI_pos (by omega)) (by rw [nI_clamp (by omega)]; omega) hc (by rw [nI_clamp (by omega)]; exact hs) fun cA kA comp g1 g2 g3 g4 => ?_
  rw [nI_clamp (by omega)]
  have o1 : ∀ q : Nat, q < H.size → (H.push { cls := cA, slots := Array.replicate N .null, vm := .none })[q]? = H[q]? := fun q hq => by rw [Array.getElem?_push, if_neg (Nat.ne_of_lt hq)]
  refine kk H.size (Nat.le_trans C.2.2.2.2.2.2 h2.1) _ locs ls (h1.new hu rfl o1 ⟨{ cls := cA, slots := Array.replicate N .null, vm := .none }, by simp, ⟨fun k h => (by cases h), kA, g2, comp, g3⟩, (by intro e; cases e), by simp, fun j hj => ?_, ?_⟩) (hSp h2 (by simp) o1) h3
  · show (Array.replicate N Value.null)[j]? = _
    simp [hav, hj, va_rf]
  · intro C' e
    cases e
    exact ⟨kA, comp, g2, g3, g4, g1⟩
theorem x_new (C : hC z own cc) {k ci index : Nat} {w : vw_C} (hu : nou G k) (hcl : hCl ci w) (hok' : ∀ j, j < w.2.2 → hok (hty ci j) = true) (hl : Cond.classLink own index w.1 ∈ lw_g) (hi : Cond.instantiable w.1 w.2.2 ∈ lw_g) (hini : Cond.initialized w.1 ∈ lw_g) (hc : cells + 1 ≤ (zR z).cells) (hs : slots + w.2.2 ≤ (zR z).slots) (d : decode cc pc = .ok (.new index, 3))
    (kk : ∀ a, z0 z ≤ a → hX z (cells + 1) (slots + w.2.2) (gNw G k (.inr ci) a) lv (pc + 3) (.ref a :: rest)) : hX z cells slots G lv pc rest := by
  intro H locs ls h1 h2 h3
  obtain ⟨hc0, hws, hty', hnm⟩ := hcl
  have hKn := C.2.2.2.2.2.1.1.1 ci _ hc0
  refine W.newcK C.1 C.2.1 C.2.2.2.1 (C.2.2.2.2.1 _ hl) (C.2.2.2.2.1 _ hi) (C.2.2.2.2.1 _ hini) rfl d hc hs hKn.2.1 rfl fun H1 kC hkC e1 z1 o1 => ?_
  refine kk H.size (Nat.le_trans C.2.2.2.2.2.2 h2.1) H1 locs ls (h1.new hu rfl o1 ⟨w, hc0, (u_born (hty ci) C.2.2.2.2.1 hws hKn hkC e1 hty').to (fun j hj => ?_)⟩) (hSp h2 z1 o1) h3
  exact hok_df (hok' j hj)
end HXA
/-! ===== what a maker does: it fills the numbers n .. m - 1, and the fields of h below f ===== -/
/-- iv: the ints of the new cells; tk: kinds; tr: references -/
def blt (a0 h n m f : Nat) (iv : Nat → Nat → Int32) (tk : List (Nat × hKd)) (tr : List (Nat × Nat × Nat)) (G G' : hG) : Prop :=
  (h < n ∧ n ≤ m) ∧ (∀ q, ¬ (n ≤ q ∧ q < m) → G'.1 q = G.1 q ∧ G'.2.2.2.2 q = G.2.2.2.2 q ∧ G'.2.2.1 q = G.2.2.1 q ∧ G'.2.1 q = G.2.1 q ∧ (q ≠ h → G'.2.2.2.1 q = G.2.2.2.1 q)) ∧
  (∀ q, n ≤ q → q < m → a0 ≤ G'.2.2.2.2 q ∧ (∀ j, G'.2.1 q j = iv q j) ∧ (∀ j, G'.2.2.1 q j = 0)) ∧
  (∀ p j q, G'.2.2.2.1 p j = some q → G.2.2.2.1 p j = some q ∨ (n ≤ q ∧ q < m)) ∧
  (∀ e ∈ tk, G'.1 e.1 = some e.2 ∧ n ≤ e.1 ∧ e.1 < m) ∧
  (∀ e ∈ tr, G'.2.2.2.1 e.1 e.2.1 = some e.2.2 ∧ ((e.1 = h ∧ e.2.1 < f) ∨ (n ≤ e.1 ∧ e.1 < m)))
theorem blt.rf {a0 h n : Nat} {iv : Nat → Nat → Int32} {G : hG} (hh : h < n) : blt a0 h n n 0 iv [] [] G G := ⟨⟨hh, Nat.le_refl _⟩, fun q _ => ⟨rfl, rfl, rfl, rfl, fun _ => rfl⟩, fun q h1 h2 => absurd h2 (by omega), fun p j q e => Or.inl e, fun e he => absurd he List.not_mem_nil, fun e he => absurd he List.not_mem_nil⟩
/-- numbers n .. m - 1 are not in use -/
def fre (n m : Nat) (G : hG) : Prop := ∀ q, n ≤ q → q < m → nou G q
theorem blt.fre {a0 h n m f N : Nat} {iv : Nat → Nat → Int32} {tk : List (Nat × hKd)} {tr : List (Nat × Nat × Nat)} {G G' : hG} (b : blt a0 h n m f iv tk tr G G') (F : fre n N G) : fre m N G' := by
  intro q h1 h2
  have hq := F q (by have := b.1.2; omega) h2
  refine ⟨by rw [(b.2.1 q (by omega)).1]; exact hq.1, fun p j e => ?_⟩
  rcases b.2.2.2.1 p j q e with e | e
  · exact hq.2 p j e
  · omega
/-- a cell of an earlier number that nothing of the making touches -/
theorem blt.old {a0 h n m f : Nat} {iv : Nat → Nat → Int32} {tk : List (Nat × hKd)} {tr : List (Nat × Nat × Nat)} {G G' : hG} (b : blt a0 h n m f iv tk tr G G') : G'.1 h = G.1 h ∧ G'.2.2.2.2 h = G.2.2.2.2 h ∧ G'.2.2.1 h = G.2.2.1 h ∧ G'.2.1 h = G.2.1 h := by
  have hb := b.1
  have h1 := b.2.1 h (by omega)
  exact ⟨h1.1, h1.2.1, h1.2.2.1, h1.2.2.2.1⟩
theorem blt.newc {a0 h n m f a : Nat} {kd : hKd} {iv : Nat → Nat → Int32} {tk : List (Nat × hKd)} {tr : List (Nat × Nat × Nat)} {G G' : hG} (b : blt a0 h n m f iv tk tr G G') (ha : a0 ≤ a) (hiv : ∀ j, iv m j = 0) : blt a0 h n (m + 1) f iv (tk ++ [(m, kd)]) tr G (gNw G' m kd a) := by
  have hb := b.1
  refine ⟨⟨hb.1, by omega⟩, fun q hq => ?_, fun q h1 h2 => ?_, fun p j q e => ?_, fun e he => ?_, fun e he => ?_⟩
  · have hqm : q ≠ m := by omega
    have h1 := b.2.1 q (by omega)
    refine ⟨?_, ?_, ?_, ?_, fun hqh => ?_⟩
    · rw [← h1.1]; exact va_up_other _ _ hqm
    · rw [← h1.2.1]; exact va_up_other _ _ hqm
    · rw [← h1.2.2.1]; exact va_up_other _ _ hqm
    · rw [← h1.2.2.2.1]; exact va_up_other _ _ hqm
    · rw [← h1.2.2.2.2 hqh]; exact va_up_other _ _ hqm
  · by_cases hqm : q = m
    · subst hqm
      refine ⟨?_, fun j => ?_, fun j => ?_⟩
      · rw [show (gNw G' q kd a).2.2.2.2 q = a from va_up_same _ _ _]; exact ha
      · rw [show (gNw G' q kd a).2.1 q = fun _ => 0 from va_up_same _ _ _]; exact (hiv j).symm
      · rw [show (gNw G' q kd a).2.2.1 q = fun _ => 0 from va_up_same _ _ _]
    · have h3 := b.2.2.1 q h1 (by omega)
      rw [show (gNw G' m kd a).2.2.2.2 q = _ from va_up_other _ _ hqm, show (gNw G' m kd a).2.1 q = _ from va_up_other _ _ hqm, show (gNw G' m kd a).2.2.1 q = _ from va_up_other _ _ hqm]
      exact h3
  · by_cases hpm : p = m
    · subst hpm
      rw [show (gNw G' p kd a).2.2.2.1 p = fun _ => none from va_up_same _ _ _] at e
      cases e
    · rw [show (gNw G' m kd a).2.2.2.1 p = _ from va_up_other _ _ hpm] at e
      rcases b.2.2.2.1 p j q e with e | e
      · exact Or.inl e
      · exact Or.inr (by omega)
  · rcases List.mem_append.mp he with he | he
    · have h1 := b.2.2.2.2.1 e he
      refine ⟨?_, h1.2.1, by omega⟩
      rw [← h1.1]; exact va_up_other _ _ (by omega)
    · rw [List.mem_singleton.mp he]
      exact ⟨va_up_same _ _ _, hb.2, by omega⟩
  · have h1 := b.2.2.2.2.2 e he
    refine ⟨?_, ?_⟩
    · rw [← h1.1]
      show va_up G'.2.2.2.1 m _ e.1 e.2.1 = _
      rw [va_up_other _ _ (by rcases h1.2 with h2 | h2 <;> omega)]
    · rcases h1.2 with h2 | h2
      · exact Or.inl h2
      · exact Or.inr ⟨h2.1, by omega⟩
/-- behind a maker of the new cell m itself -/
theorem blt.sub {a0 h n m m2 f f2 : Nat} {iv : Nat → Nat → Int32} {tk tk2 : List (Nat × hKd)} {tr tr2 : List (Nat × Nat × Nat)} {G G' G2 : hG} (b : blt a0 h n (m + 1) f iv tk tr G G') (hm : n ≤ m) (htr : ∀ e ∈ tr, e.1 ≠ m) (c : blt a0 m (m + 1) m2 f2 iv tk2 tr2 G' G2) : blt a0 h n m2 f iv (tk ++ tk2) (tr ++ tr2) G G2 := by
  have hb := b.1
  have hc := c.1
  refine ⟨⟨hb.1, by omega⟩, fun q hq => ?_, fun q h1 h2 => ?_, fun p j q e => ?_, fun e he => ?_, fun e he => ?_⟩
  · have h1 := b.2.1 q (by omega)
    have h2 := c.2.1 q (by omega)
    exact ⟨h2.1.trans h1.1, h2.2.1.trans h1.2.1, h2.2.2.1.trans h1.2.2.1, h2.2.2.2.1.trans h1.2.2.2.1, fun hqh => (h2.2.2.2.2 (by omega)).trans (h1.2.2.2.2 hqh)⟩
  · by_cases hq : q < m + 1
    · have h3 := b.2.2.1 q h1 hq
      have h4 := c.2.1 q (by omega)
      rw [h4.2.1, h4.2.2.2.1, h4.2.2.1]
      exact h3
    · exact c.2.2.1 q (by omega) h2
  · rcases c.2.2.2.1 p j q e with e | e
    · rcases b.2.2.2.1 p j q e with e | e
      · exact Or.inl e
      · exact Or.inr (by omega)
    · exact Or.inr (by omega)
  · rcases List.mem_append.mp he with he | he
    · have h1 := b.2.2.2.2.1 e he
      refine ⟨?_, h1.2.1, by omega⟩
      rw [(c.2.1 e.1 (by omega)).1]; exact h1.1
    · have h1 := c.2.2.2.2.1 e he
      exact ⟨h1.1, by omega, h1.2.2⟩
  · rcases List.mem_append.mp he with he | he
    · have h1 := b.2.2.2.2.2 e he
      have hne := htr e he
      refine ⟨?_, ?_⟩
      · rw [(c.2.1 e.1 (by rcases h1.2 with h2 | h2 <;> omega)).2.2.2.2 hne]; exact h1.1
      · rcases h1.2 with h2 | h2
        · exact Or.inl h2
        · exact Or.inr ⟨h2.1, by omega⟩
    · have h1 := c.2.2.2.2.2 e he
      refine ⟨h1.1, Or.inr ?_⟩
      rcases h1.2 with h2 | h2 <;> omega
/-- behind the field's put -/
theorem blt.put {a0 h n m f k r : Nat} {iv : Nat → Nat → Int32} {tk : List (Nat × hKd)} {tr : List (Nat × Nat × Nat)} {G G' : hG} (b : blt a0 h n m f iv tk tr G G') (hk : f ≤ k) (hr : n ≤ r ∧ r < m) : blt a0 h n m (k + 1) iv tk (tr ++ [(h, k, r)]) G (gR G' h k (some r)) := by
  have hb := b.1
  refine ⟨hb, fun q hq => ?_, fun q h1 h2 => b.2.2.1 q h1 h2, fun p j q e => ?_, fun e he => b.2.2.2.2.1 e he, fun e he => ?_⟩
  · have h1 := b.2.1 q hq
    refine ⟨h1.1, h1.2.1, h1.2.2.1, h1.2.2.2.1, fun hqh => ?_⟩
    rw [← h1.2.2.2.2 hqh]; exact va_up_other _ _ hqh
  · by_cases hp : p = h
    · subst hp
      rw [show (gR G' p k (some r)).2.2.2.1 p = va_up (G'.2.2.2.1 p) k (some r) from va_up_same _ _ _] at e
      by_cases hj : j = k
      · subst hj
        rw [va_up_same] at e
        cases e
        exact Or.inr hr
      · rw [va_up_other _ _ hj] at e
        exact b.2.2.2.1 p j q e
    · rw [show (gR G' h k (some r)).2.2.2.1 p = G'.2.2.2.1 p from va_up_other _ _ hp] at e
      exact b.2.2.2.1 p j q e
  · rcases List.mem_append.mp he with he | he
    · have h1 := b.2.2.2.2.2 e he
      refine ⟨?_, ?_⟩
      · rw [← h1.1]
        show va_up G'.2.2.2.1 h _ e.1 e.2.1 = _
        rcases h1.2 with h2 | h2
        · rw [h2.1, va_up_same, va_up_other _ _ (by omega)]
        · rw [va_up_other _ _ (by omega)]
      · rcases h1.2 with h2 | h2
        · exact Or.inl ⟨h2.1, by omega⟩
        · exact Or.inr h2
    · rw [List.mem_singleton.mp he]
      refine ⟨?_, Or.inl ⟨rfl, by show k < k + 1; omega⟩⟩
      show va_up G'.2.2.2.1 h _ h k = _
      rw [va_up_same, va_up_same]
theorem gI_0 {G : hG} {h k : Nat} (h0 : ∀ j, G.2.1 h j = 0) : gI G h k (nI 0) = G := by
  have e : va_up G.2.1 h (upd (G.2.1 h) k (nI 0)) = G.2.1 := by
    funext q j
    by_cases hq : q = h
    · subst hq
      rw [va_up_same]
      by_cases hj : j = k
      · subst hj; simp [upd, h0, nI_0]
      · simp [upd, hj]
    · rw [va_up_other _ _ hq]
  show (G.1, va_up G.2.1 h (upd (G.2.1 h) k (nI 0)), G.2.2.1, G.2.2.2.1, G.2.2.2.2) = G
  rw [e]
section HXM
variable {z : hZ} {own : String} {cc : ByteArray} {cells slots pc : Nat} {G Gi : hG} {tl : List (Nat × Value)} {h n m f N ci : Nat} {iv : Nat → Nat → Int32} {tk : List (Nat × hKd)} {tr : List (Nat × Nat × Nat)}
/-- what a maker's walk knows: its object, of the class ci, fresh; free numbers up to N -/
def mkr (z : hZ) (own : String) (G : hG) (h n N ci : Nat) : Prop := (zM z).name = "<init>" ∧ vwCl[ci]?.map (fun w => w.1) = some own ∧ G.1 h = some (.inr ci) ∧ z0 z ≤ gA G h ∧ (∀ j, G.2.1 h j = 0) ∧ fre n N G
theorem mkr.put {cells slots : Nat} {rest : List Value} {lv : List (Nat × Value)} (C : hC z own cc) (K : mkr z own G h n N ci) (b : blt (z0 z) h n m f iv tk tr G Gi) {index k r : Nat} {bf : Bool} (fl : hFl own index ci k bf) (hr : hrf (hty ci k) = true) (hr2 : (hty ci k).isReference = true) (d : decode cc pc = .ok (.putfield index, 3))
    (kk : hX z cells slots (gR Gi h k (some r)) lv (pc + 3) rest) : hX z cells slots Gi lv pc (.ref (gA Gi r) :: .ref (gA Gi h) :: rest) := by
  have ho := b.old
  cases bf with
  | true => exact x_putrF C fl K.2.1 K.1 (by rw [ho.1]; exact K.2.2.1) (by show z0 z ≤ Gi.2.2.2.2 h; rw [ho.2.1]; exact K.2.2.2.1) hr hr2 d kk
  | false => exact x_putr C fl (by rw [ho.1]; exact K.2.2.1) (by show z0 z ≤ Gi.2.2.2.2 h; rw [ho.2.1]; exact K.2.2.2.1) hr hr2 d kk
theorem gNw_A {G : hG} {m a : Nat} {kd : hKd} : gA (gNw G m kd a) m = a := va_up_same _ _ _
theorem gNw_Ao {G : hG} {m a h : Nat} {kd : hKd} (hne : h ≠ m) : gA (gNw G m kd a) h = gA G h := va_up_other _ _ hne
/-- newarray, putfield -/
theorem s_arr (C : hC z own cc) (K : mkr z own G h n N ci) (b : blt (z0 z) h n m f iv tk tr G Gi) (hm : m < N) (hiv : ∀ j, iv m j = 0) {index k len : Nat} {bf : Bool} {atype : ArrayType} (hk : f ≤ k) (fl : hFl own index ci k bf) (hr : hrf (hty ci k) = true) (hr2 : (hty ci k).isReference = true) (h3t : atype = .int ∨ atype = .long ∨ atype = .boolean) (harr : Cond.arrayClass (newarray.typeOf atype) ∈ lw_g) (hN : len < 2 ^ 20) (hc : cells + 1 ≤ (zR z).cells) (hs : slots + len ≤ (zR z).slots) (d1 : decode cc pc = .ok (.newarray atype, 2)) (d2 : decode cc (pc + 2) = .ok (.putfield index, 3))
    (kk : ∀ G', blt (z0 z) h n (m + 1) (k + 1) iv (tk ++ [(m, .inl (newarray.typeOf atype, len))]) (tr ++ [(h, k, m)]) G G' → hX z (cells + 1) (slots + len) G' ((0, .ref (gA G' h)) :: tl) (pc + 5) []) : hX z cells slots Gi ((0, .ref (gA Gi h)) :: tl) pc [.int (nI len), .ref (gA Gi h)] := by
  have hb := b.1
  refine x_newa C (k := m) (b.fre K.2.2.2.2.2 m (Nat.le_refl _) hm) h3t harr hN hc hs d1 (fun a ha => ?_)
  have b1 := b.newc (kd := .inl (newarray.typeOf atype, len)) ha hiv
  rw [← gNw_A (G := Gi) (m := m) (a := a) (kd := .inl (newarray.typeOf atype, len))]
  generalize hg : gNw Gi m (.inl (newarray.typeOf atype, len)) (gA (gNw Gi m (.inl (newarray.typeOf atype, len)) a) m) = G1
  rw [gNw_A] at hg
  rw [← gNw_Ao (G := Gi) (m := m) (a := a) (kd := .inl (newarray.typeOf atype, len)) (show h ≠ m by omega)]
  rw [hg] at b1 ⊢
  refine mkr.put C K b1 fl hr hr2 d2 ?_
  exact kk _ (b1.put hk ⟨hb.2, by omega⟩)
/-- anewarray, putfield -/
theorem s_ano (C : hC z own cc) (K : mkr z own G h n N ci) (b : blt (z0 z) h n m f iv tk tr G Gi) (hm : m < N) (hiv : ∀ j, iv m j = 0) {index idx k len : Nat} {bf : Bool} {Cn : String} (hk : f ≤ k) (fl : hFl own index ci k bf) (hr : hrf (hty ci k) = true) (hr2 : (hty ci k).isReference = true) (hl : Cond.classLink own idx Cn ∈ lw_g) (hao : FieldType.object Cn ∈ lw_ao) (hN : len < 2 ^ 20) (hc : cells + 1 ≤ (zR z).cells) (hs : slots + len ≤ (zR z).slots) (d1 : decode cc pc = .ok (.anewarray idx, 3)) (d2 : decode cc (pc + 3) = .ok (.putfield index, 3))
    (kk : ∀ G', blt (z0 z) h n (m + 1) (k + 1) iv (tk ++ [(m, .inl (.object Cn, len))]) (tr ++ [(h, k, m)]) G G' → hX z (cells + 1) (slots + len) G' ((0, .ref (gA G' h)) :: tl) (pc + 6) []) : hX z cells slots Gi ((0, .ref (gA Gi h)) :: tl) pc [.int (nI len), .ref (gA Gi h)] := by
  have hb := b.1
  refine x_anew C (k := m) (b.fre K.2.2.2.2.2 m (Nat.le_refl _) hm) hl hao hN hc hs d1 (fun a ha => ?_)
  have b1 := b.newc (kd := .inl (.object Cn, len)) ha hiv
  rw [← gNw_A (G := Gi) (m := m) (a := a) (kd := .inl (.object Cn, len))]
  generalize hg : gNw Gi m (.inl (.object Cn, len)) (gA (gNw Gi m (.inl (.object Cn, len)) a) m) = G1
  rw [gNw_A] at hg
  rw [← gNw_Ao (G := Gi) (m := m) (a := a) (kd := .inl (.object Cn, len)) (show h ≠ m by omega)]
  rw [hg] at b1 ⊢
  refine mkr.put C K b1 fl hr hr2 d2 ?_
  exact kk _ (b1.put hk ⟨hb.2, by omega⟩)
/-- new, over the field's object -/
theorem s_new (C : hC z own cc) (K : mkr z own G h n N ci) (b : blt (z0 z) h n m f iv tk tr G Gi) (hm : m < N) (hiv : ∀ j, iv m j = 0) {cj index : Nat} {w : vw_C} (hcl : hCl cj w) (hok' : ∀ j, j < w.2.2 → hok (hty cj j) = true) (hl : Cond.classLink own index w.1 ∈ lw_g) (hi : Cond.instantiable w.1 w.2.2 ∈ lw_g) (hini : Cond.initialized w.1 ∈ lw_g) (hc : cells + 1 ≤ (zR z).cells) (hs : slots + w.2.2 ≤ (zR z).slots) (d : decode cc pc = .ok (.new index, 3))
    (kk : ∀ G', blt (z0 z) h n (m + 1) f iv (tk ++ [(m, .inr cj)]) tr G G' → hX z (cells + 1) (slots + w.2.2) G' ((0, .ref (gA G' h)) :: tl) (pc + 3) [.ref (gA G' m), .ref (gA G' h)]) : hX z cells slots Gi ((0, .ref (gA Gi h)) :: tl) pc [.ref (gA Gi h)] := by
  have hb := b.1
  refine x_new C (k := m) (b.fre K.2.2.2.2.2 m (Nat.le_refl _) hm) hcl hok' hl hi hini hc hs d (fun a ha => ?_)
  have b1 := b.newc (kd := .inr cj) ha hiv
  have := kk _ b1
  rw [gNw_A, gNw_Ao (show h ≠ m by omega)] at this
  exact this
/-- a field's put of 0 -/
theorem s_put0 {lv : List (Nat × Value)} (C : hC z own cc) (K : mkr z own G h n N ci) (b : blt (z0 z) h n m f iv tk tr G Gi) {index k : Nat} (fl : hFl own index ci k false) (ht : hty ci k = .int ∨ hty ci k = .boolean) (d : decode cc pc = .ok (.putfield index, 3))
    (kk : hX z cells slots Gi lv (pc + 3) []) : hX z cells slots Gi lv pc [.int (nI 0), .ref (gA Gi h)] := by
  have ho := b.old
  have e : gI Gi h k (nI 0) = Gi := gI_0 (fun j => by rw [ho.2.2.2]; exact K.2.2.2.2.1 j)
  rcases ht with ht | ht
  · exact x_puti C fl (by rw [ho.1]; exact K.2.2.1) (by show z0 z ≤ Gi.2.2.2.2 h; rw [ho.2.1]; exact K.2.2.2.1) ht d (by rw [e]; exact kk)
  · exact x_putz C fl (by rw [ho.1]; exact K.2.2.1) (by show z0 z ≤ Gi.2.2.2.2 h; rw [ho.2.1]; exact K.2.2.2.1) ht (Or.inl (by rw [nI_0])) d (by rw [e]; exact kk)
/-- what a maker of the new cell m needs -/
theorem mkr.there (K : mkr z own G h n N ci) {cj : Nat} (b : blt (z0 z) h n (m + 1) f iv (tk ++ [(m, .inr cj)]) tr G Gi) (hm : n ≤ m) (hiv : ∀ j, iv m j = 0) : Gi.1 m = some (.inr cj) ∧ z0 z ≤ gA Gi m ∧ (∀ j, Gi.2.1 m j = 0) ∧ fre (m + 1) N Gi :=
  ⟨(b.2.2.2.2.1 (m, .inr cj) (by simp)).1, (b.2.2.1 m hm (Nat.lt_succ_self m)).1, fun j => ((b.2.2.1 m hm (Nat.lt_succ_self m)).2.1 j).trans (hiv j), b.fre K.2.2.2.2.2⟩
end HXM
