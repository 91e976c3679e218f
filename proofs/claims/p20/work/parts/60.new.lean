/-! ===== making cells ===== -/
/-- the heap with a new cell: its number, its kind, its address -/
def gNw (G : hG) (k : Nat) (kd : hKd) (a : Nat) : hG := (va_up G.1 k (some kd), va_up G.2.1 k (fun _ => 0), va_up G.2.2.1 k (fun _ => 0), va_up G.2.2.2.1 k (fun _ => none), va_up G.2.2.2.2 k a)
/-- a number that is not in use -/
def nou (G : hG) (k : Nat) : Prop := G.1 k = none ∧ ∀ p j, G.2.2.2.1 p j ≠ some k
theorem HR.new {U : State} {D : va_G} {G : hG} {H H1 : Heap} {k a : Nat} {kd : hKd} (h : HR U D G H) (hk : nou G k) (ha : a = H.size) (o : ∀ q : Nat, q < H.size → H1[q]? = H[q]?) (hn : hat U D kd (fun _ => 0) (fun _ => 0) (fun _ => none) a H1) : HR U D (gNw G k kd a) H1 := by
  have hlt : ∀ q, G.1 q ≠ none → G.2.2.2.2 q < H.size := by
    intro q hq
    cases e : G.1 q with
    | none => exact absurd e hq
    | some k' => exact (h.1 q k' e).lt
  refine ⟨fun q k' e => ?_, fun i j hi hj he => ?_⟩
  · by_cases hq : q = k
    · subst hq
      have e2 : kd = k' := by simpa [gNw, va_up] using e
      subst e2
      have e3 : (fun j => ((gNw G q kd a).2.2.2.1 q j).map (gNw G q kd a).2.2.2.2) = fun _ => none := by
        funext j; simp [gNw, va_up]
      rw [e3]
      simpa [gNw, va_up] using hn
    · have e2 : G.1 q = some k' := by simpa [gNw, va_up, hq] using e
      have h0 := h.1 q k' e2
      have e3 : (fun j => ((gNw G k kd a).2.2.2.1 q j).map (gNw G k kd a).2.2.2.2) = fun j => (G.2.2.2.1 q j).map G.2.2.2.2 := by
        funext j
        show (va_up G.2.2.2.1 k _ q j).map (va_up G.2.2.2.2 k a) = _
        rw [va_up_other _ _ hq]
        cases e4 : G.2.2.2.1 q j with
        | none => rfl
        | some r =>
          have hr : r ≠ k := fun e5 => hk.2 q j (by rw [e4, e5])
          simp [va_up, hr]
      rw [e3, show (gNw G k kd a).2.1 q = G.2.1 q from va_up_other _ _ hq, show (gNw G k kd a).2.2.1 q = G.2.2.1 q from va_up_other _ _ hq, show (gNw G k kd a).2.2.2.2 q = G.2.2.2.2 q from va_up_other _ _ hq]
      exact h0.kept (o _ h0.lt)
  · by_cases h1 : i = k
    · by_cases h2 : j = k
      · rw [h1, h2]
      · exfalso
        have hj' : G.1 j ≠ none := by simpa [gNw, va_up, h2] using hj
        have := hlt j hj'
        rw [show (gNw G k kd a).2.2.2.2 j = G.2.2.2.2 j from va_up_other _ _ h2, h1, show (gNw G k kd a).2.2.2.2 k = a from va_up_same _ _ _] at he
        omega
    · by_cases h2 : j = k
      · exfalso
        have hi' : G.1 i ≠ none := by simpa [gNw, va_up, h1] using hi
        have := hlt i hi'
        rw [show (gNw G k kd a).2.2.2.2 i = G.2.2.2.2 i from va_up_other _ _ h1, h2, show (gNw G k kd a).2.2.2.2 k = a from va_up_same _ _ _] at he
        omega
      · refine h.2 i j (by simpa [gNw, va_up, h1] using hi) (by simpa [gNw, va_up, h2] using hj) ?_
        rw [show (gNw G k kd a).2.2.2.2 i = G.2.2.2.2 i from va_up_other _ _ h1, show (gNw G k kd a).2.2.2.2 j = G.2.2.2.2 j from va_up_other _ _ h2] at he
        exact he
def hok (t : FieldType) : Bool := match t with
  | .int => true | .boolean => true | .object _ => true | .array _ => true | _ => false
theorem hok_df {t : FieldType} (h : hok t = true) : defaultValue t = if hrf t then va_rf none else .int 0 := by
  cases t <;> first | rfl | (simp [hok] at h; done)
section HXA
variable {z : hZ} {own : String} {cc : ByteArray} {cells slots pc : Nat} {G : hG} {lv lv' : List (Nat × Value)} {rest : List Value}
theorem hSp {H H1 : Heap} {locs : List Loc} (h2 : va_S (fun q => z0 z ≤ q) (zs z).heap H locs) (hz : H1.size = H.size + 1) (o : ∀ q : Nat, q < H.size → H1[q]? = H[q]?) : va_S (fun q => z0 z ≤ q) (zs z).heap H1 locs := ⟨Nat.le_trans h2.1 (by omega), fun x g1 g2 => (o x (Nat.lt_of_lt_of_le g1 h2.1)).trans (h2.2.1 x g1 g2), h2.2.2⟩
theorem x_newa (C : hC z own cc) {k N : Nat} {atype : ArrayType} (hu : nou G k) (h3t : atype = .int ∨ atype = .long ∨ atype = .boolean) (harr : Cond.arrayClass (newarray.typeOf atype) ∈ lw_g) (hN : N < 2 ^ 20) (hc : cells + 1 ≤ (zR z).cells) (hs : slots + N ≤ (zR z).slots) (d : decode cc pc = .ok (.newarray atype, 2))
    (kk : ∀ a, z0 z ≤ a → hX z (cells + 1) (slots + N) (gNw G k (.inl (newarray.typeOf atype, N)) a) lv (pc + 2) (.ref a :: rest)) : hX z cells slots G lv pc (.int (nI N) :: rest) := by
  intro H locs ls h1 h2 h3
  have hb : N * componentBytes (newarray.typeOf atype) ≤ 536870912 := by
    rcases h3t with rfl | rfl | rfl
    · show N * 4 ≤ _; omega
    · show N * 8 ≤ _; omega
    · show N * 1 ≤ _; omega
  refine va_newaK C.1 C.2.1 (C.2.2.2.2.1 _ harr) rfl d rfl (nI_pos (by omega)) (nI_clamp (by omega)) hb hc hs rfl fun H1 cA e1 z1 o1 hAr hNm => ?_
  refine kk H.size (Nat.le_trans C.2.2.2.2.2.2 h2.1) H1 locs ls (h1.new hu rfl o1 ⟨_, e1, hAr N _, (by intro e; cases e), arrV_size _ _ _, fun j hj => ?_, ?_⟩) (hSp h2 z1 o1) h3
  · rw [arrV_read _ _ hj]
    rcases h3t with rfl | rfl | rfl <;> rfl
  · intro C' e
    rcases h3t with rfl | rfl | rfl <;> cases e
theorem x_anew (C : hC z own cc) {k N index : Nat} {Cn : String} (hu : nou G k) (hl : Cond.classLink own index Cn ∈ lw_g) (hao : FieldType.object Cn ∈ lw_ao) (hN : N < 2 ^ 20) (hc : cells + 1 ≤ (zR z).cells) (hs : slots + N ≤ (zR z).slots) (d : decode cc pc = .ok (.anewarray index, 3))
    (kk : ∀ a, z0 z ≤ a → hX z (cells + 1) (slots + N) (gNw G k (.inl (.object Cn, N)) a) lv (pc + 3) (.ref a :: rest)) : hX z cells slots G lv pc (.int (nI N) :: rest) := by
  intro H locs ls h1 h2 h3
  have hov : (Cond.arrayOver (.object Cn)).before (za z) (zs z) = true := C.2.2.2.2.2.1.2.2.2.1 _ hao
  refine W.anew C.1 C.2.1 C.2.2.2.1 (C.2.2.2.2.1 _ hl) hov rfl d rfl (nI_pos (by omega)) (by rw [nI_clamp (by omega)]; omega) hc (by rw [nI_clamp (by omega)]; exact hs) fun cA kA comp g1 g2 g3 g4 => ?_
  rw [nI_clamp (by omega)]
  have o1 : ∀ q : Nat, q < H.size → (H.push { cls := cA, slots := Array.replicate N .null, vm := .none })[q]? = H[q]? := fun q hq => by rw [Array.getElem?_push, if_neg (Nat.ne_of_lt hq)]
  refine kk H.size (Nat.le_trans C.2.2.2.2.2.2 h2.1) _ locs ls (h1.new hu rfl o1 ⟨{ cls := cA, slots := Array.replicate N .null, vm := .none }, by simp, ⟨fun k h => (by cases h), kA, g2, comp, g3⟩, (by intro e; cases e), by simp, fun j hj => ?_, ?_⟩) (hSp h2 (by simp) o1) h3
  · show (Array.replicate N Value.null)[j]? = _
    simp [hav, hj, va_rf]
  · intro C' e
    cases e
    exact ⟨kA, comp, g2, g3, g4, g1⟩
theorem x_new (C : hC z own cc) {k ci index : Nat} {w : vw_C} (hu : nou G k) (hcl : hCl ci w) (hok' : ∀ j, j < w.2.2 → hok (hty ci j) = true) (hl : Cond.classLink own index w.1 ∈ lw_g) (hi : Cond.instantiable w.1 w.2.2 ∈ lw_g) (hini : Cond.initialized w.1 ∈ lw_g) (hc : cells + 1 ≤ (zR z).cells) (hs : slots + w.2.2 ≤ (zR z).slots) (d : decode cc pc = .ok (.new index, 3))
    (kk : ∀ a, z0 z ≤ a → hX z (cells + 1) (slots + w.2.2) (gNw G k (.inr ci) a) lv (pc + 3) (.ref a :: rest)) : hX z cells slots G lv pc rest := by
  intro H locs ls h1 h2 h3
  obtain ⟨hc0, hws, hty', hnm⟩ := hcl
  have hKn := C.2.2.2.2.2.1.1.1 ci _ hc0
  refine W.newcK C.1 C.2.1 C.2.2.2.1 (C.2.2.2.2.1 _ hl) (C.2.2.2.2.1 _ hi) (C.2.2.2.2.1 _ hini) rfl d hc hs hKn.2.1 rfl fun H1 kC hkC e1 z1 o1 => ?_
  refine kk H.size (Nat.le_trans C.2.2.2.2.2.2 h2.1) H1 locs ls (h1.new hu rfl o1 ⟨w, hc0, (u_born (hty ci) C.2.2.2.2.1 hws hKn hkC e1 hty').to (fun j hj => ?_)⟩) (hSp h2 z1 o1) h3
  exact hok_df (hok' j hj)
end HXA
/-! ===== what a maker does: it fills numbers of n .. m - 1, and the fields of h below f; N: where the free numbers end ===== -/
/-- iv: the ints of the new cells; tk: kinds; tr: references -/
def blt (a0 h n m N f : Nat) (iv : Nat → Nat → Int32) (tk : List (Nat × hKd)) (tr : List (Nat × Nat × Nat)) (G G' : hG) : Prop :=
  ((h < n ∨ N ≤ h) ∧ n ≤ m ∧ m ≤ N) ∧ (∀ q, ¬ (n ≤ q ∧ q < m) → G'.1 q = G.1 q ∧ G'.2.2.2.2 q = G.2.2.2.2 q ∧ G'.2.2.1 q = G.2.2.1 q ∧ G'.2.1 q = G.2.1 q ∧ (q ≠ h → G'.2.2.2.1 q = G.2.2.2.1 q)) ∧
  (∀ p j q, G'.2.2.2.1 p j = some q → G.2.2.2.1 p j = some q ∨ (n ≤ q ∧ q < m)) ∧
  (∀ e ∈ tk, G'.1 e.1 = some e.2 ∧ (n ≤ e.1 ∧ e.1 < m) ∧ a0 ≤ G'.2.2.2.2 e.1 ∧ (∀ j, G'.2.1 e.1 j = iv e.1 j) ∧ (∀ j, G'.2.2.1 e.1 j = 0)) ∧
  (∀ e ∈ tr, G'.2.2.2.1 e.1 e.2.1 = some e.2.2 ∧ ((e.1 = h ∧ e.2.1 < f) ∨ (n ≤ e.1 ∧ e.1 < m)))
theorem blt.rf {a0 h n N : Nat} {iv : Nat → Nat → Int32} {G : hG} (hh : h < n ∨ N ≤ h) (hn : n ≤ N) : blt a0 h n n N 0 iv [] [] G G := ⟨⟨hh, Nat.le_refl _, hn⟩, fun q _ => ⟨rfl, rfl, rfl, rfl, fun _ => rfl⟩, fun p j q e => Or.inl e, fun e he => absurd he List.not_mem_nil, fun e he => absurd he List.not_mem_nil⟩
theorem blt.skip {a0 h n m N f : Nat} {iv : Nat → Nat → Int32} {tk : List (Nat × hKd)} {tr : List (Nat × Nat × Nat)} {G G' : hG} (b : blt a0 h n m N f iv tk tr G G') (hm : m < N) : blt a0 h n (m + 1) N f iv tk tr G G' :=
  ⟨⟨b.1.1, Nat.le_succ_of_le b.1.2.1, hm⟩, fun q hq => b.2.1 q (by omega), fun p j q e => (b.2.2.1 p j q e).imp id (by omega), fun e he => ⟨(b.2.2.2.1 e he).1, by have := (b.2.2.2.1 e he).2.1; omega, (b.2.2.2.1 e he).2.2⟩, fun e he => ⟨(b.2.2.2.2 e he).1, (b.2.2.2.2 e he).2.imp id (by omega)⟩⟩
/-- numbers n .. m - 1 are not in use -/
def fre (n m : Nat) (G : hG) : Prop := ∀ q, n ≤ q → q < m → nou G q
theorem blt.frm {a0 h n m N f : Nat} {iv : Nat → Nat → Int32} {tk : List (Nat × hKd)} {tr : List (Nat × Nat × Nat)} {G G' : hG} (b : blt a0 h n m N f iv tk tr G G') (F : fre n N G) : fre m N G' := by
  intro q h1 h2
  have hq := F q (by have := b.1.2; omega) h2
  refine ⟨by rw [(b.2.1 q (by omega)).1]; exact hq.1, fun p j e => ?_⟩
  rcases b.2.2.1 p j q e with e | e
  · exact hq.2 p j e
  · omega
/-- other numbers that were free stay so -/
theorem blt.fro {a0 h n m N f u v : Nat} {iv : Nat → Nat → Int32} {tk : List (Nat × hKd)} {tr : List (Nat × Nat × Nat)} {G G' : hG} (b : blt a0 h n m N f iv tk tr G G') (F : fre u v G) (hd : v ≤ n ∨ m ≤ u) : fre u v G' := by
  intro q h1 h2
  have hq := F q h1 h2
  refine ⟨by rw [(b.2.1 q (by omega)).1]; exact hq.1, fun p j e => ?_⟩
  rcases b.2.2.1 p j q e with e | e
  · exact hq.2 p j e
  · omega
theorem blt.old {a0 h n m N f : Nat} {iv : Nat → Nat → Int32} {tk : List (Nat × hKd)} {tr : List (Nat × Nat × Nat)} {G G' : hG} (b : blt a0 h n m N f iv tk tr G G') : G'.1 h = G.1 h ∧ G'.2.2.2.2 h = G.2.2.2.2 h ∧ G'.2.2.1 h = G.2.2.1 h ∧ G'.2.1 h = G.2.1 h := by
  have hb := b.1
  have h1 := b.2.1 h (by omega)
  exact ⟨h1.1, h1.2.1, h1.2.2.1, h1.2.2.2.1⟩
/-- a new cell with its ints -/
theorem blt.newi {a0 h n m N f a : Nat} {kd : hKd} {iv : Nat → Nat → Int32} {tk : List (Nat × hKd)} {tr : List (Nat × Nat × Nat)} {G G' G2 : hG} (b : blt a0 h n m N f iv tk tr G G') (hm : m < N) (ha : a0 ≤ a) (e1 : G2.1 = va_up G'.1 m (some kd)) (e2 : ∀ q, q ≠ m → G2.2.1 q = G'.2.1 q) (e3 : ∀ j, G2.2.1 m j = iv m j) (e4 : G2.2.2.1 = va_up G'.2.2.1 m (fun _ => 0)) (e5 : G2.2.2.2.1 = va_up G'.2.2.2.1 m (fun _ => none)) (e6 : G2.2.2.2.2 = va_up G'.2.2.2.2 m a) : blt a0 h n (m + 1) N f iv (tk ++ [(m, kd)]) tr G G2 := by
  have hb := b.1
  unfold blt
  rw [e1, e4, e5, e6]
  refine ⟨⟨hb.1, by omega, by omega⟩, fun q hq => ?_, fun p j q e => ?_, fun e he => ?_, fun e he => ?_⟩
  · have hqm : q ≠ m := by omega
    have h1 := b.2.1 q (by omega)
    exact ⟨(va_up_other _ _ hqm).trans h1.1, (va_up_other _ _ hqm).trans h1.2.1, (va_up_other _ _ hqm).trans h1.2.2.1, (e2 q hqm).trans h1.2.2.2.1, fun hqh => (va_up_other _ _ hqm).trans (h1.2.2.2.2 hqh)⟩
  · by_cases hpm : p = m
    · subst hpm
      rw [va_up_same] at e
      cases e
    · rw [va_up_other _ _ hpm] at e
      rcases b.2.2.1 p j q e with e | e
      · exact Or.inl e
      · exact Or.inr (by omega)
  · rcases List.mem_append.mp he with he | he
    · have h1 := b.2.2.2.1 e he
      have hne : e.1 ≠ m := by omega
      rw [va_up_other _ _ hne, va_up_other _ _ hne, va_up_other _ _ hne, e2 _ hne]
      exact ⟨h1.1, by omega, h1.2.2⟩
    · rw [List.mem_singleton.mp he]
      refine ⟨va_up_same _ _ _, ⟨hb.2.1, by show m < m + 1; omega⟩, ?_, e3, fun j => ?_⟩
      · show a0 ≤ va_up G'.2.2.2.2 m a m
        rw [va_up_same]; exact ha
      · show va_up G'.2.2.1 m _ m j = 0
        rw [va_up_same]
  · have h1 := b.2.2.2.2 e he
    have hne : e.1 ≠ m := by rcases h1.2 with h2 | h2 <;> omega
    rw [va_up_other _ _ hne]
    exact ⟨h1.1, h1.2.imp id (by omega)⟩
theorem blt.newc {a0 h n m N f a : Nat} {kd : hKd} {iv : Nat → Nat → Int32} {tk : List (Nat × hKd)} {tr : List (Nat × Nat × Nat)} {G G' : hG} (b : blt a0 h n m N f iv tk tr G G') (hm : m < N) (ha : a0 ≤ a) (hiv : ∀ j, iv m j = 0) : blt a0 h n (m + 1) N f iv (tk ++ [(m, kd)]) tr G (gNw G' m kd a) :=
  b.newi (kd := kd) hm ha rfl (fun q hq => va_up_other _ _ hq) (fun j => by rw [show (gNw G' m kd a).2.1 m = fun _ => 0 from va_up_same _ _ _]; exact (hiv j).symm) rfl rfl rfl
/-- behind a maker of the new cell m itself -/
theorem blt.sub {a0 h n m n1 m2 N f f2 : Nat} {iv : Nat → Nat → Int32} {tk tk1 tk2 : List (Nat × hKd)} {tr tr2 : List (Nat × Nat × Nat)} {G G' G1 G2 : hG} (b : blt a0 h n m N f iv tk tr G G') (b1 : blt a0 h n n1 N f iv tk1 tr G G1) (hm : m < n1) (c : blt a0 m n1 m2 N f2 iv tk2 tr2 G1 G2) : blt a0 h n m2 N f iv (tk1 ++ tk2) (tr ++ tr2) G G2 := by
  have hb := b.1
  have hb1 := b1.1
  have hc := c.1
  refine ⟨⟨hb.1, by omega, by omega⟩, fun q hq => ?_, fun p j q e => ?_, fun e he => ?_, fun e he => ?_⟩
  · have h1 := b1.2.1 q (by omega)
    have h2 := c.2.1 q (by omega)
    exact ⟨h2.1.trans h1.1, h2.2.1.trans h1.2.1, h2.2.2.1.trans h1.2.2.1, h2.2.2.2.1.trans h1.2.2.2.1, fun hqh => (h2.2.2.2.2 (by omega)).trans (h1.2.2.2.2 hqh)⟩
  · rcases c.2.2.1 p j q e with e | e
    · rcases b1.2.2.1 p j q e with e | e
      · exact Or.inl e
      · exact Or.inr (by omega)
    · exact Or.inr (by omega)
  · rcases List.mem_append.mp he with he | he
    · have h1 := b1.2.2.2.1 e he
      have h2 := c.2.1 e.1 (by omega)
      rw [h2.1, h2.2.1, h2.2.2.2.1, h2.2.2.1]
      exact ⟨h1.1, by omega, h1.2.2⟩
    · have h1 := c.2.2.2.1 e he
      exact ⟨h1.1, by omega, h1.2.2⟩
  · rcases List.mem_append.mp he with he | he
    · have h0 := b.2.2.2.2 e he
      have h1 := b1.2.2.2.2 e he
      have hne : e.1 ≠ m := by rcases h0.2 with h2 | h2 <;> omega
      refine ⟨?_, h1.2.imp id (by omega)⟩
      rw [(c.2.1 e.1 (by rcases h1.2 with h2 | h2 <;> omega)).2.2.2.2 hne]; exact h1.1
    · have h1 := c.2.2.2.2 e he
      refine ⟨h1.1, Or.inr ?_⟩
      rcases h1.2 with h2 | h2 <;> omega
/-- behind the field's put -/
theorem blt.put {a0 h n m N f k r : Nat} {iv : Nat → Nat → Int32} {tk : List (Nat × hKd)} {tr : List (Nat × Nat × Nat)} {G G' : hG} (b : blt a0 h n m N f iv tk tr G G') (hk : f ≤ k) (hr : n ≤ r ∧ r < m) : blt a0 h n m N (k + 1) iv tk (tr ++ [(h, k, r)]) G (gR G' h k (some r)) := by
  have hb := b.1
  refine ⟨hb, fun q hq => ?_, fun p j q e => ?_, fun e he => b.2.2.2.1 e he, fun e he => ?_⟩
  · have h1 := b.2.1 q hq
    exact ⟨h1.1, h1.2.1, h1.2.2.1, h1.2.2.2.1, fun hqh => (va_up_other _ _ hqh).trans (h1.2.2.2.2 hqh)⟩
  · by_cases hp : p = h
    · subst hp
      rw [show (gR G' p k (some r)).2.2.2.1 p = va_up (G'.2.2.2.1 p) k (some r) from va_up_same _ _ _] at e
      by_cases hj : j = k
      · subst hj
        rw [va_up_same] at e
        cases e
        exact Or.inr hr
      · rw [va_up_other _ _ hj] at e
        exact b.2.2.1 p j q e
    · rw [show (gR G' h k (some r)).2.2.2.1 p = G'.2.2.2.1 p from va_up_other _ _ hp] at e
      exact b.2.2.1 p j q e
  · rcases List.mem_append.mp he with he | he
    · have h1 := b.2.2.2.2 e he
      refine ⟨?_, ?_⟩
      · rw [← h1.1]
        show va_up G'.2.2.2.1 h _ e.1 e.2.1 = _
        rcases h1.2 with h2 | h2
        · rw [h2.1, va_up_same, va_up_other _ _ (by omega)]
        · rw [va_up_other _ _ (by omega)]
      · rcases h1.2 with h2 | h2
        · exact Or.inl ⟨h2.1, by omega⟩
        · exact Or.inr h2
    · rw [List.mem_singleton.mp he]
      refine ⟨?_, Or.inl ⟨rfl, by show k < k + 1; omega⟩⟩
      show va_up G'.2.2.2.1 h _ h k = _
      rw [va_up_same, va_up_same]
theorem gI_0 {G : hG} {h k : Nat} (h0 : ∀ j, G.2.1 h j = 0) : gI G h k (nI 0) = G := by
  have e : va_up G.2.1 h (upd (G.2.1 h) k (nI 0)) = G.2.1 := by
    funext q j
    by_cases hq : q = h
    · subst hq
      rw [va_up_same]
      by_cases hj : j = k
      · subst hj; simp [upd, h0, nI_0]
      · simp [upd, hj]
    · rw [va_up_other _ _ hq]
  show (G.1, va_up G.2.1 h (upd (G.2.1 h) k (nI 0)), G.2.2.1, G.2.2.2.1, G.2.2.2.2) = G
  rw [e]
theorem gNw_A {G : hG} {m a : Nat} {kd : hKd} : gA (gNw G m kd a) m = a := va_up_same _ _ _
theorem gNw_Ao {G : hG} {m a h : Nat} {kd : hKd} (hne : h ≠ m) : gA (gNw G m kd a) h = gA G h := va_up_other _ _ hne
section HXM
variable {z : hZ} {own : String} {cc : ByteArray} {cells slots pc : Nat} {G Gi : hG} {tl : List (Nat × Value)} {h n m f N ci : Nat} {iv : Nat → Nat → Int32} {tk : List (Nat × hKd)} {tr : List (Nat × Nat × Nat)}
/-- what a maker's walk knows: its object, of the class ci, fresh; free numbers up to N -/
def mkr (z : hZ) (own : String) (G : hG) (h n N ci : Nat) : Prop := (zM z).name = "<init>" ∧ vwCl[ci]?.map (fun w => w.1) = some own ∧ G.1 h = some (.inr ci) ∧ z0 z ≤ gA G h ∧ (∀ j, G.2.1 h j = 0) ∧ fre n N G
theorem mkr.put {cells slots : Nat} {rest : List Value} {lv : List (Nat × Value)} (C : hC z own cc) (K : mkr z own G h n N ci) (b : blt (z0 z) h n m N f iv tk tr G Gi) {index k r : Nat} {bf : Bool} (fl : hFl own index ci k bf) (hr : hrf (hty ci k) = true) (hr2 : (hty ci k).isReference = true) (d : decode cc pc = .ok (.putfield index, 3))
    (kk : hX z cells slots (gR Gi h k (some r)) lv (pc + 3) rest) : hX z cells slots Gi lv pc (.ref (gA Gi r) :: .ref (gA Gi h) :: rest) := by
  have ho := b.old
  cases bf with
  | true => exact x_putrF C fl K.2.1 K.1 (by rw [ho.1]; exact K.2.2.1) (by show z0 z ≤ Gi.2.2.2.2 h; rw [ho.2.1]; exact K.2.2.2.1) hr hr2 d kk
  | false => exact x_putr C fl (by rw [ho.1]; exact K.2.2.1) (by show z0 z ≤ Gi.2.2.2.2 h; rw [ho.2.1]; exact K.2.2.2.1) hr hr2 d kk
/-- newarray, putfield -/
theorem s_arr (C : hC z own cc) (K : mkr z own G h n N ci) (b : blt (z0 z) h n m N f iv tk tr G Gi) (hm : m < N) (hiv : ∀ j, iv m j = 0) {index k len : Nat} {bf : Bool} {atype : ArrayType} (hk : f ≤ k) (fl : hFl own index ci k bf) (hr : hrf (hty ci k) = true) (hr2 : (hty ci k).isReference = true) (h3t : atype = .int ∨ atype = .long ∨ atype = .boolean) (harr : Cond.arrayClass (newarray.typeOf atype) ∈ lw_g) (hN : len < 2 ^ 20) (hc : cells + 1 ≤ (zR z).cells) (hs : slots + len ≤ (zR z).slots) (d1 : decode cc pc = .ok (.newarray atype, 2)) (d2 : decode cc (pc + 2) = .ok (.putfield index, 3))
    (kk : ∀ G', blt (z0 z) h n (m + 1) N (k + 1) iv (tk ++ [(m, .inl (newarray.typeOf atype, len))]) (tr ++ [(h, k, m)]) G G' → hX z (cells + 1) (slots + len) G' ((0, .ref (gA G' h)) :: tl) (pc + 5) []) : hX z cells slots Gi ((0, .ref (gA Gi h)) :: tl) pc [.int (nI len), .ref (gA Gi h)] := by
  have hb := b.1
  refine x_newa C (k := m) (b.frm K.2.2.2.2.2 m (Nat.le_refl _) hm) h3t harr hN hc hs d1 (fun a ha => ?_)
  have b1 := b.newc (kd := .inl (newarray.typeOf atype, len)) hm ha hiv
  have e1 := gNw_A (G := Gi) (m := m) (a := a) (kd := .inl (newarray.typeOf atype, len))
  have e2 := gNw_Ao (G := Gi) (m := m) (a := a) (h := h) (kd := .inl (newarray.typeOf atype, len)) (by omega)
  generalize gNw Gi m (.inl (newarray.typeOf atype, len)) a = G1 at b1 e1 e2 ⊢
  rw [← e1, ← e2]
  refine mkr.put C K b1 fl hr hr2 d2 ?_
  exact kk _ (b1.put hk ⟨hb.2.1, by omega⟩)
/-- anewarray, putfield -/
theorem s_ano (C : hC z own cc) (K : mkr z own G h n N ci) (b : blt (z0 z) h n m N f iv tk tr G Gi) (hm : m < N) (hiv : ∀ j, iv m j = 0) {index idx k len : Nat} {bf : Bool} {Cn : String} (hk : f ≤ k) (fl : hFl own index ci k bf) (hr : hrf (hty ci k) = true) (hr2 : (hty ci k).isReference = true) (hl : Cond.classLink own idx Cn ∈ lw_g) (hao : FieldType.object Cn ∈ lw_ao) (hN : len < 2 ^ 20) (hc : cells + 1 ≤ (zR z).cells) (hs : slots + len ≤ (zR z).slots) (d1 : decode cc pc = .ok (.anewarray idx, 3)) (d2 : decode cc (pc + 3) = .ok (.putfield index, 3))
    (kk : ∀ G', blt (z0 z) h n (m + 1) N (k + 1) iv (tk ++ [(m, .inl (.object Cn, len))]) (tr ++ [(h, k, m)]) G G' → hX z (cells + 1) (slots + len) G' ((0, .ref (gA G' h)) :: tl) (pc + 6) []) : hX z cells slots Gi ((0, .ref (gA Gi h)) :: tl) pc [.int (nI len), .ref (gA Gi h)] := by
  have hb := b.1
  refine x_anew C (k := m) (b.frm K.2.2.2.2.2 m (Nat.le_refl _) hm) hl hao hN hc hs d1 (fun a ha => ?_)
  have b1 := b.newc (kd := .inl (.object Cn, len)) hm ha hiv
  have e1 := gNw_A (G := Gi) (m := m) (a := a) (kd := .inl (.object Cn, len))
  have e2 := gNw_Ao (G := Gi) (m := m) (a := a) (h := h) (kd := .inl (.object Cn, len)) (by omega)
  generalize gNw Gi m (.inl (.object Cn, len)) a = G1 at b1 e1 e2 ⊢
  rw [← e1, ← e2]
  refine mkr.put C K b1 fl hr hr2 d2 ?_
  exact kk _ (b1.put hk ⟨hb.2.1, by omega⟩)
/-- new, over the field's object -/
theorem s_new (C : hC z own cc) (K : mkr z own G h n N ci) (b : blt (z0 z) h n m N f iv tk tr G Gi) (hm : m < N) (hiv : ∀ j, iv m j = 0) {cj index : Nat} {w : vw_C} (hcl : hCl cj w) (hok' : ∀ j, j < w.2.2 → hok (hty cj j) = true) (hl : Cond.classLink own index w.1 ∈ lw_g) (hi : Cond.instantiable w.1 w.2.2 ∈ lw_g) (hini : Cond.initialized w.1 ∈ lw_g) (hc : cells + 1 ≤ (zR z).cells) (hs : slots + w.2.2 ≤ (zR z).slots) (d : decode cc pc = .ok (.new index, 3))
    (kk : ∀ G', blt (z0 z) h n (m + 1) N f iv (tk ++ [(m, .inr cj)]) tr G G' → (G'.1 m = some (.inr cj) ∧ z0 z ≤ gA G' m ∧ (∀ j, G'.2.1 m j = 0) ∧ fre (m + 1) N G') → hX z (cells + 1) (slots + w.2.2) G' ((0, .ref (gA G' h)) :: tl) (pc + 3) [.ref (gA G' m), .ref (gA G' h)]) : hX z cells slots Gi ((0, .ref (gA Gi h)) :: tl) pc [.ref (gA Gi h)] := by
  have hb := b.1
  refine x_new C (k := m) (b.frm K.2.2.2.2.2 m (Nat.le_refl _) hm) hcl hok' hl hi hini hc hs d (fun a ha => ?_)
  have b1 := b.newc (kd := .inr cj) hm ha hiv
  have hl := b1.2.2.2.1 (m, .inr cj) (by simp)
  have := kk _ b1 ⟨hl.1, hl.2.2.1, fun j => (hl.2.2.2.1 j).trans (hiv j), b1.frm K.2.2.2.2.2⟩
  rw [gNw_A, gNw_Ao (show h ≠ m by omega)] at this
  exact this
/-- behind the maker of the field's object: putfield -/
theorem s_fin (C : hC z own cc) (K : mkr z own G h n N ci) {n1 m2 f2 : Nat} {tk1 tk2 : List (Nat × hKd)} {tr2 : List (Nat × Nat × Nat)} {G1 G2 : hG} (b : blt (z0 z) h n m N f iv tk tr G Gi) (b1 : blt (z0 z) h n n1 N f iv tk1 tr G G1) (hm : m < n1) (c : blt (z0 z) m n1 m2 N f2 iv tk2 tr2 G1 G2) {index k : Nat} {bf : Bool} (hk : f ≤ k) (fl : hFl own index ci k bf) (hr : hrf (hty ci k) = true) (hr2 : (hty ci k).isReference = true) (d : decode cc pc = .ok (.putfield index, 3))
    (kk : ∀ G', blt (z0 z) h n m2 N (k + 1) iv (tk1 ++ tk2) (tr ++ tr2 ++ [(h, k, m)]) G G' → hX z cells slots G' ((0, .ref (gA G' h)) :: tl) (pc + 3) []) : hX z cells slots G2 ((0, .ref (gA G1 h)) :: tl) pc [.ref (gA G1 m), .ref (gA G1 h)] := by
  have hb := b.1
  have hb1 := b1.1
  have hc := c.1
  have b2 := b.sub b1 hm c
  have e1 : gA G1 m = gA G2 m := c.old.2.1.symm
  have e2 : gA G1 h = gA G2 h := (c.2.1 h (by omega)).2.1.symm
  rw [e1, e2]
  refine mkr.put C K b2 fl hr hr2 d ?_
  exact kk _ (b2.put hk ⟨by omega, by omega⟩)
/-- a field's put of 0 -/
theorem s_put0 {lv : List (Nat × Value)} (C : hC z own cc) (K : mkr z own G h n N ci) (b : blt (z0 z) h n m N f iv tk tr G Gi) {index k : Nat} (fl : hFl own index ci k false) (ht : hty ci k = .int ∨ hty ci k = .boolean) (d : decode cc pc = .ok (.putfield index, 3))
    (kk : hX z cells slots Gi lv (pc + 3) []) : hX z cells slots Gi lv pc [.int (nI 0), .ref (gA Gi h)] := by
  have ho := b.old
  have e : gI Gi h k (nI 0) = Gi := gI_0 (fun j => by rw [ho.2.2.2]; exact K.2.2.2.2.1 j)
  rcases ht with ht | ht
  · exact x_puti C fl (by rw [ho.1]; exact K.2.2.1) (by show z0 z ≤ Gi.2.2.2.2 h; rw [ho.2.1]; exact K.2.2.2.1) ht d (by rw [e]; exact kk)
  · exact x_putz C fl (by rw [ho.1]; exact K.2.2.1) (by show z0 z ≤ Gi.2.2.2.2 h; rw [ho.2.1]; exact K.2.2.2.1) ht (Or.inl (by rw [nI_0])) d (by rw [e]; exact kk)
/-- an array that is filled at once: newarray -/
def inl_ (v : Nat → Int32) (m k : Nat) (G G' : hG) : Prop := G'.1 = G.1 ∧ (∀ q, q ≠ m → G'.2.1 q = G.2.1 q) ∧ (∀ j, G'.2.1 m j = if j < k then v j else 0) ∧ G'.2.2.1 = G.2.2.1 ∧ G'.2.2.2.1 = G.2.2.2.1 ∧ G'.2.2.2.2 = G.2.2.2.2
theorem s_ina (C : hC z own cc) (K : mkr z own G h n N ci) (b : blt (z0 z) h n m N f iv tk tr G Gi) (hm : m < N) {len : Nat} {v : Nat → Int32} (harr : Cond.arrayClass .int ∈ lw_g) (hN : len < 2 ^ 20) (hc : cells + 1 ≤ (zR z).cells) (hs : slots + len ≤ (zR z).slots) (d1 : decode cc pc = .ok (.newarray .int, 2))
    (kk : ∀ G1, G1.1 m = some (.inl (.int, len)) → z0 z ≤ gA G1 m → (∀ G2, inl_ v m len G1 G2 → (∀ j, iv m j = if j < len then v j else 0) → blt (z0 z) h n (m + 1) N f iv (tk ++ [(m, .inl (.int, len))]) tr G G2) → (∀ j, G1.2.1 m j = 0) → hX z (cells + 1) (slots + len) G1 ((0, .ref (gA G1 h)) :: tl) (pc + 2) [.ref (gA G1 m), .ref (gA G1 h)]) : hX z cells slots Gi ((0, .ref (gA Gi h)) :: tl) pc [.int (nI len), .ref (gA Gi h)] := by
  have hb := b.1
  refine x_newa C (k := m) (b.frm K.2.2.2.2.2 m (Nat.le_refl _) hm) (Or.inl rfl) harr hN hc hs d1 (fun a ha => ?_)
  have := kk (gNw Gi m (.inl (.int, len)) a) (va_up_same _ _ _) (by rw [gNw_A]; exact ha) (fun G2 i hv => ?_) (fun j => by rw [show (gNw Gi m (.inl (.int, len)) a).2.1 m = fun _ => 0 from va_up_same _ _ _])
  · rw [gNw_A, gNw_Ao (show h ≠ m by omega)] at this
    exact this
  · obtain ⟨i1, i2, i3, i4, i5, i6⟩ := i
    exact b.newi (kd := .inl (.int, len)) hm ha i1 (fun q hq => (i2 q hq).trans (va_up_other _ _ hq)) (fun j => (i3 j).trans (hv j).symm) i4 i5 i6
/-- a store of the next int -/
theorem s_ist (C : hC z own cc) {lv : List (Nat × Value)} {rest : List Value} {G1 G2 : hG} {v : Nat → Int32} {len k : Nat} {x : Int32} (i : inl_ v m k G1 G2) (hT : G1.1 m = some (.inl (.int, len))) (hA : z0 z ≤ gA G1 m) (hk : k < len) (hl : len < 2 ^ 20) (hx : x = v k) (d : decode cc pc = .ok (.iastore, 1))
    (kk : ∀ G3, inl_ v m (k + 1) G1 G3 → gA G3 = gA G1 → hX z cells slots G3 lv (pc + 1) rest) : hX z cells slots G2 lv pc (.int x :: .int (nI k) :: .ref (gA G1 m) :: rest) := by
  obtain ⟨i1, i2, i3, i4, i5, i6⟩ := i
  have e : gA G1 m = gA G2 m := by show G1.2.2.2.2 m = G2.2.2.2.2 m; rw [i6]
  rw [e]
  refine x_iast C (by rw [i1]; exact hT) (by rw [← e]; exact hA) (vp_in_nI hk (by omega)) d ?_
  rw [nI_clamp (by omega)]
  refine kk _ ⟨i1, fun q hq => (va_up_other _ _ hq).trans (i2 q hq), fun j => ?_, i4, i5, i6⟩ i6
  show va_up G2.2.1 m (upd (G2.2.1 m) k x) m j = _
  rw [va_up_same]
  by_cases hj : j = k
  · subst hj; simp [upd, hx]
  · simp only [upd, hj, if_false, i3]
    by_cases h1 : j < k
    · rw [if_pos h1, if_pos (by omega)]
    · rw [if_neg h1, if_neg (by omega)]
end HXM
def iv0 : Nat → Nat → Int32 := fun _ _ => 0
