/-! ===== fields and arrays over hX ===== -/
def gI (G : hG) (a k : Nat) (x : Int32) : hG := (G.1, va_up G.2.1 a (upd (G.2.1 a) k x), G.2.2.1, G.2.2.2.1, G.2.2.2.2)
def gL (G : hG) (a k : Nat) (x : Int64) : hG := (G.1, G.2.1, va_up G.2.2.1 a (vp_updL (G.2.2.1 a) k x), G.2.2.2.1, G.2.2.2.2)
def gR (G : hG) (a k : Nat) (x : Option Nat) : hG := (G.1, G.2.1, G.2.2.1, va_up G.2.2.2.1 a (va_up (G.2.2.2.1 a) k x), G.2.2.2.2)
abbrev gA (G : hG) : Nat → Nat := G.2.2.2.2
/-- the references of a cell, as addresses -/
abbrev gP (G : hG) (a : Nat) : Nat → Option Nat := fun j => (G.2.2.2.1 a j).map G.2.2.2.2
theorem va_up_same {α : Type} (f : Nat → α) (k : Nat) (x : α) : va_up f k x k = x := by simp [va_up]
theorem va_up_other {α : Type} (f : Nat → α) {k j : Nat} (x : α) (h : j ≠ k) : va_up f k x j = f j := by simp [va_up, h]
section HXC
variable {z : hZ} {own : String} {cc : ByteArray} {cells slots pc : Nat} {G : hG} {lv lv' : List (Nat × Value)} {rest : List Value}
theorem hget (C : hC z own cc) {index ci k a : Nat} {b : Bool} (f : hFl own index ci k b) (hT : G.1 a = some (.inr ci)) (d : decode cc pc = .ok (.getfield index, 3))
    (kk : hX z cells slots G lv (pc + 3) (hfv ci (G.2.1 a) (gP G a) k :: rest)) : hX z cells slots G lv pc (.ref (gA G a) :: rest) := by
  intro H locs ls h1 h2 h3
  obtain ⟨w, ⟨hc, hws, hty, hnm⟩, hk, hl, -, -⟩ := f
  obtain ⟨w', hc', ce, q1, q2, q3, q4⟩ := h1.1 a _ hT
  have hr : w' = w := Option.some.inj (hc'.symm.trans hc)
  subst hr
  obtain ⟨hS, hfc, kC, hkC, hkind⟩ := C.2.2.2.2.2.1.1.1 ci _ hc
  obtain ⟨cf, kf, fi, f, hi, hsl⟩ := hS k hk
  have hst := (u_facts hfc hkC (u_lays C.2.2.2.2.1 hws hk) hi).1
  refine W.getf C.1 C.2.1 C.2.2.2.1 (C.2.2.2.2.1 _ hl) hi hst q1 (by rw [q3]; intro e; cases e) (by rw [hsl]; exact q4 k hk) rfl rfl d ?_
  exact kk H locs ls h1 h2 h3
theorem x_geti (C : hC z own cc) {index ci k a : Nat} {b : Bool} (f : hFl own index ci k b) (hT : G.1 a = some (.inr ci)) (hr : hrf (hty ci k) = false) (d : decode cc pc = .ok (.getfield index, 3))
    (kk : hX z cells slots G lv (pc + 3) (.int (G.2.1 a k) :: rest)) : hX z cells slots G lv pc (.ref (gA G a) :: rest) := by
  refine hget C f hT d ?_
  rw [hfv, if_neg (by rw [hr]; decide)]
  exact kk
theorem x_getr (C : hC z own cc) {index ci k a q : Nat} {b : Bool} (f : hFl own index ci k b) (hT : G.1 a = some (.inr ci)) (hr : hrf (hty ci k) = true) (hq : G.2.2.2.1 a k = some q) (d : decode cc pc = .ok (.getfield index, 3))
    (kk : hX z cells slots G lv (pc + 3) (.ref (gA G q) :: rest)) : hX z cells slots G lv pc (.ref (gA G a) :: rest) := by
  refine hget C f hT d ?_
  rw [hfv, if_pos hr, gP, hq]
  exact kk
theorem hput (C : hC z own cc) {index ci k a : Nat} (f : hFl own index ci k false) (hT : G.1 a = some (.inr ci)) (h0 : z0 z ≤ gA G a) {v : Value} (hn : narrow (hty ci k) v = v) (hf : fits (hty ci k) v = true) (d : decode cc pc = .ok (.putfield index, 3)) {G1 : hG}
    (e1 : G1.1 = G.1) (e2 : ∀ q, q ≠ a → G1.2.1 q = G.2.1 q) (e3 : G1.2.2.1 = G.2.2.1) (e4 : ∀ q, q ≠ a → G1.2.2.2.1 q = G.2.2.2.1 q) (e5 : G1.2.2.2.2 = G.2.2.2.2) (ev : hfv ci (G1.2.1 a) (gP G1 a) k = v) (ev2 : ∀ j, j ≠ k → hfv ci (G1.2.1 a) (gP G1 a) j = hfv ci (G.2.1 a) (gP G a) j)
    (kk : hX z cells slots G1 lv (pc + 3) rest) : hX z cells slots G lv pc (v :: .ref (gA G a) :: rest) := by
  intro H locs ls h1 h2 h3
  obtain ⟨w, ⟨hc, hws, hty, hnm⟩, hk, hl, hfin, -⟩ := f
  have hap := va_apart (own := own) C.2.2.2.2.1 hws _ hty hnm C.2.2.2.2.2.1.1 hc
  obtain ⟨w', hc', ce, q1, q2, q3, q4⟩ := h1.1 a _ hT
  have hr : w' = w := Option.some.inj (hc'.symm.trans hc)
  subst hr
  obtain ⟨hS, hfc, kC, hkC, hkind⟩ := C.2.2.2.2.2.1.1.1 ci _ hc
  obtain ⟨cf, kf, fi, f, hi, hsl⟩ := hS k hk
  have hlay := C.2.2.2.2.1 _ (hws _ (u_in_lay hk))
  unfold u_lay at hlay
  rw [if_neg (by rw [hfin]; decide)] at hlay
  have hst := (u_facts hfc hkC (u_lays C.2.2.2.2.1 hws hk) hi).1
  have h6 := u_store hfc hkC hkind hlay hi (hty k hk) hn hf
  refine W.putK C.1 C.2.1 (f := f) ⟨C.2.2.2.1, C.2.2.2.2.1 _ hl, ⟨_, _, _, hi⟩, hst⟩ (by rw [q2]; exact h6) q1 q3 (by rw [hsl]; exact k2_hasslot (q4 k hk)) rfl rfl d fun H' g1 g2 g3 => ?_
  rw [hsl] at g1 ⊢
  refine kk H' _ ls (h1.put (a := a) hT g3 e1 e5 e2 (fun q _ => by rw [e3]) e4 ?_) (h2.put g2 g3 h0) h3
  rw [show (fun j => (G1.2.2.2.1 a j).map G.2.2.2.2) = gP G1 a from by unfold gP; rw [e5]]
  refine ⟨_, hc, t_OB.to (V := updV (hfv ci (G.2.1 a) (gP G a)) k v) ⟨_, g1, q2, q3, t_set q4 hap hk v⟩ (fun j _ => ?_)⟩
  unfold updV
  by_cases e : j = k
  · subst e; rw [if_pos rfl, ev]
  · rw [if_neg e, ev2 j e]
theorem hputF (C : hC z own cc) {index ci k a : Nat} (f : hFl own index ci k true) (hown : vwCl[ci]?.map (fun w => w.1) = some own) (hin : (zM z).name = "<init>") (hT : G.1 a = some (.inr ci)) (h0 : z0 z ≤ gA G a) {v : Value} (hn : narrow (hty ci k) v = v) (hf : fits (hty ci k) v = true) (d : decode cc pc = .ok (.putfield index, 3)) {G1 : hG}
    (e1 : G1.1 = G.1) (e2 : ∀ q, q ≠ a → G1.2.1 q = G.2.1 q) (e3 : G1.2.2.1 = G.2.2.1) (e4 : ∀ q, q ≠ a → G1.2.2.2.1 q = G.2.2.2.1 q) (e5 : G1.2.2.2.2 = G.2.2.2.2) (ev : hfv ci (G1.2.1 a) (gP G1 a) k = v) (ev2 : ∀ j, j ≠ k → hfv ci (G1.2.1 a) (gP G1 a) j = hfv ci (G.2.1 a) (gP G a) j)
    (kk : hX z cells slots G1 lv (pc + 3) rest) : hX z cells slots G lv pc (v :: .ref (gA G a) :: rest) := by
  intro H locs ls h1 h2 h3
  obtain ⟨w, ⟨hc, hws, hty, hnm⟩, hk, hl, hfin, hdecl⟩ := f
  have hap := va_apart (own := own) C.2.2.2.2.1 hws _ hty hnm C.2.2.2.2.2.1.1 hc
  obtain ⟨w', hc', ce, q1, q2, q3, q4⟩ := h1.1 a _ hT
  have hr : w' = w := Option.some.inj (hc'.symm.trans hc)
  subst hr
  rw [hc] at hown
  have hown : w'.1 = own := Option.some.inj hown
  obtain ⟨hS, hfc, kC, hkC, hkind⟩ := C.2.2.2.2.2.1.1.1 ci _ hc
  obtain ⟨cf, kf, fi, f, hi, hsl⟩ := hS k hk
  have hlay := C.2.2.2.2.1 _ (hws _ (u_in_lay hk))
  unfold u_lay at hlay
  rw [if_pos hfin] at hlay
  have hst := (u_facts hfc hkC (u_lays C.2.2.2.2.1 hws hk) hi).1
  have hcf : (zm z).cls = cf := by
    obtain ⟨_, _, c', _, _, _, -, -, hf', -, -, -, hown2, -⟩ := Cond.laysFinal_spec hlay
    have e1 : c' = cf := by have := hi.symm.trans hf'; simp at this; exact this.1.symm
    rw [hdecl, hown] at hown2
    rw [← e1]; exact Option.some.inj (C.2.2.2.1.symm.trans hown2)
  have h6 := u_fits hfc hkC hkind (Or.inr hlay) hi (hty k hk) hn hf
  refine W.putFinK C.1 C.2.1 C.2.2.2.1 (C.2.2.2.2.1 _ hl) hi hst hcf hin (by rw [q2]; exact h6) q1 q3 (by rw [hsl]; exact k2_hasslot (q4 k hk)) rfl rfl d fun H' g1 g2 g3 => ?_
  rw [hsl] at g1 ⊢
  refine kk H' _ ls (h1.put (a := a) hT g3 e1 e5 e2 (fun q _ => by rw [e3]) e4 ?_) (h2.put g2 g3 h0) h3
  rw [show (fun j => (G1.2.2.2.1 a j).map G.2.2.2.2) = gP G1 a from by unfold gP; rw [e5]]
  refine ⟨_, hc, t_OB.to (V := updV (hfv ci (G.2.1 a) (gP G a)) k v) ⟨_, g1, q2, q3, t_set q4 hap hk v⟩ (fun j _ => ?_)⟩
  unfold updV
  by_cases e : j = k
  · subst e; rw [if_pos rfl, ev]
  · rw [if_neg e, ev2 j e]
theorem hfv_i {ci k a : Nat} {x : Int32} (hr : hrf (hty ci k) = false) : hfv ci ((gI G a k x).2.1 a) (gP (gI G a k x) a) k = .int x := by
  rw [hfv, if_neg (by rw [hr]; decide)]; simp [gI, va_up, upd]
theorem hfv_i2 {ci k a : Nat} {x : Int32} : ∀ j, j ≠ k → hfv ci ((gI G a k x).2.1 a) (gP (gI G a k x) a) j = hfv ci (G.2.1 a) (gP G a) j := by
  intro j hj; unfold hfv; simp [gP, gI, va_up, upd, hj]
theorem hfv_r {ci k a : Nat} {x : Option Nat} (hr : hrf (hty ci k) = true) : hfv ci ((gR G a k x).2.1 a) (gP (gR G a k x) a) k = va_rf (x.map G.2.2.2.2) := by
  rw [hfv, if_pos hr]; simp [gP, gR, va_up]
theorem hfv_r2 {ci k a : Nat} {x : Option Nat} : ∀ j, j ≠ k → hfv ci ((gR G a k x).2.1 a) (gP (gR G a k x) a) j = hfv ci (G.2.1 a) (gP G a) j := by
  intro j hj; unfold hfv; simp [gP, gR, va_up, hj]
theorem x_puti (C : hC z own cc) {index ci k a : Nat} {x : Int32} (f : hFl own index ci k false) (hT : G.1 a = some (.inr ci)) (h0 : z0 z ≤ gA G a) (ht : hty ci k = .int) (d : decode cc pc = .ok (.putfield index, 3)) (kk : hX z cells slots (gI G a k x) lv (pc + 3) rest) : hX z cells slots G lv pc (.int x :: .ref (gA G a) :: rest) :=
  hput (G1 := gI G a k x) C f hT h0 (by rw [ht]; rfl) (by rw [ht]; rfl) d rfl (fun q h => by simp [gI, va_up, h]) rfl (fun q h => rfl) rfl (hfv_i (by rw [ht]; rfl)) hfv_i2 kk
theorem x_putiF (C : hC z own cc) {index ci k a : Nat} {x : Int32} (f : hFl own index ci k true) (hown : vwCl[ci]?.map (fun w => w.1) = some own) (hin : (zM z).name = "<init>") (hT : G.1 a = some (.inr ci)) (h0 : z0 z ≤ gA G a) (ht : hty ci k = .int) (d : decode cc pc = .ok (.putfield index, 3)) (kk : hX z cells slots (gI G a k x) lv (pc + 3) rest) : hX z cells slots G lv pc (.int x :: .ref (gA G a) :: rest) :=
  hputF (G1 := gI G a k x) C f hown hin hT h0 (by rw [ht]; rfl) (by rw [ht]; rfl) d rfl (fun q h => by simp [gI, va_up, h]) rfl (fun q h => rfl) rfl (hfv_i (by rw [ht]; rfl)) hfv_i2 kk
theorem nar_z {x : Int32} (h : x = 0 ∨ x = 1) : narrow .boolean (.int x) = .int x ∧ fits .boolean (.int x) = true := by
  rcases h with rfl | rfl <;> exact ⟨by decide +kernel, by decide +kernel⟩
theorem x_putz (C : hC z own cc) {index ci k a : Nat} {x : Int32} (f : hFl own index ci k false) (hT : G.1 a = some (.inr ci)) (h0 : z0 z ≤ gA G a) (ht : hty ci k = .boolean) (hx : x = 0 ∨ x = 1) (d : decode cc pc = .ok (.putfield index, 3)) (kk : hX z cells slots (gI G a k x) lv (pc + 3) rest) : hX z cells slots G lv pc (.int x :: .ref (gA G a) :: rest) :=
  hput (G1 := gI G a k x) C f hT h0 (by rw [ht]; exact (nar_z hx).1) (by rw [ht]; exact (nar_z hx).2) d rfl (fun q h => by simp [gI, va_up, h]) rfl (fun q h => rfl) rfl (hfv_i (by rw [ht]; rfl)) hfv_i2 kk
theorem x_putzF (C : hC z own cc) {index ci k a : Nat} {x : Int32} (f : hFl own index ci k true) (hown : vwCl[ci]?.map (fun w => w.1) = some own) (hin : (zM z).name = "<init>") (hT : G.1 a = some (.inr ci)) (h0 : z0 z ≤ gA G a) (ht : hty ci k = .boolean) (hx : x = 0 ∨ x = 1) (d : decode cc pc = .ok (.putfield index, 3)) (kk : hX z cells slots (gI G a k x) lv (pc + 3) rest) : hX z cells slots G lv pc (.int x :: .ref (gA G a) :: rest) :=
  hputF (G1 := gI G a k x) C f hown hin hT h0 (by rw [ht]; exact (nar_z hx).1) (by rw [ht]; exact (nar_z hx).2) d rfl (fun q h => by simp [gI, va_up, h]) rfl (fun q h => rfl) rfl (hfv_i (by rw [ht]; rfl)) hfv_i2 kk
theorem ref_z {ty : FieldType} (h : hrf ty = true) (h2 : ty.isReference = true) (q : Nat) : narrow ty (.ref q) = .ref q ∧ fits ty (.ref q) = true := by
  cases ty <;> first | (simp [hrf] at h; done) | (simp [FieldType.isReference] at h2; done) | exact ⟨rfl, rfl⟩
theorem x_putr (C : hC z own cc) {index ci k a q : Nat} (f : hFl own index ci k false) (hT : G.1 a = some (.inr ci)) (h0 : z0 z ≤ gA G a) (hr : hrf (hty ci k) = true) (hr2 : (hty ci k).isReference = true) (d : decode cc pc = .ok (.putfield index, 3)) (kk : hX z cells slots (gR G a k (some q)) lv (pc + 3) rest) : hX z cells slots G lv pc (.ref (gA G q) :: .ref (gA G a) :: rest) :=
  hput (G1 := gR G a k (some q)) C f hT h0 (ref_z hr hr2 _).1 (ref_z hr hr2 _).2 d rfl (fun q h => rfl) rfl (fun q h => by simp [gR, va_up, h]) rfl (hfv_r hr) hfv_r2 kk
theorem x_putrF (C : hC z own cc) {index ci k a q : Nat} (f : hFl own index ci k true) (hown : vwCl[ci]?.map (fun w => w.1) = some own) (hin : (zM z).name = "<init>") (hT : G.1 a = some (.inr ci)) (h0 : z0 z ≤ gA G a) (hr : hrf (hty ci k) = true) (hr2 : (hty ci k).isReference = true) (d : decode cc pc = .ok (.putfield index, 3)) (kk : hX z cells slots (gR G a k (some q)) lv (pc + 3) rest) : hX z cells slots G lv pc (.ref (gA G q) :: .ref (gA G a) :: rest) :=
  hputF (G1 := gR G a k (some q)) C f hown hin hT h0 (ref_z hr hr2 _).1 (ref_z hr hr2 _).2 d rfl (fun q h => rfl) rfl (fun q h => by simp [gR, va_up, h]) rfl (hfv_r hr) hfv_r2 kk
theorem x_iald (C : hC z own cc) {a n : Nat} {i : Int32} (hT : G.1 a = some (.inl (.int, n))) (hin : vp_in i n) (d : decode cc pc = .ok (.iaload, 1)) (kk : hX z cells slots G lv (pc + 1) (.int (G.2.1 a i.toNatClampNeg) :: rest)) : hX z cells slots G lv pc (.int i :: .ref (gA G a) :: rest) := by
  intro H locs ls h1 h2 h3
  obtain ⟨ce, q1, q2, q3, q4, q5, -⟩ := h1.1 a _ hT
  exact W.iald C.1 C.2.1 q1 q2 q3 (by rw [q4]; exact hin) (q5 _ (Nat.not_le.mp fun q => hin (Or.inr q))) rfl rfl d (kk H locs ls h1 h2 h3)
theorem x_zald (C : hC z own cc) {a n : Nat} {i : Int32} (hT : G.1 a = some (.inl (.boolean, n))) (hin : vp_in i n) (d : decode cc pc = .ok (.baload, 1)) (kk : hX z cells slots G lv (pc + 1) (.int (G.2.1 a i.toNatClampNeg) :: rest)) : hX z cells slots G lv pc (.int i :: .ref (gA G a) :: rest) := by
  intro H locs ls h1 h2 h3
  obtain ⟨ce, q1, q2, q3, q4, q5, -⟩ := h1.1 a _ hT
  exact W.zald C.1 C.2.1 q1 q2 q3 (by rw [q4]; exact hin) (q5 _ (Nat.not_le.mp fun q => hin (Or.inr q))) rfl rfl d (kk H locs ls h1 h2 h3)
theorem x_lald (C : hC z own cc) {a n : Nat} {i : Int32} (hT : G.1 a = some (.inl (.long, n))) (hin : vp_in i n) (d : decode cc pc = .ok (.laload, 1)) (kk : hX z cells slots G lv (pc + 1) (.long (G.2.2.1 a i.toNatClampNeg) :: rest)) : hX z cells slots G lv pc (.int i :: .ref (gA G a) :: rest) := by
  intro H locs ls h1 h2 h3
  obtain ⟨ce, q1, q2, q3, q4, q5, -⟩ := h1.1 a _ hT
  exact W.lald C.1 C.2.1 q1 q2 q3 (by rw [q4]; exact hin) (q5 _ (Nat.not_le.mp fun q => hin (Or.inr q))) rfl rfl d (kk H locs ls h1 h2 h3)
theorem x_aald (C : hC z own cc) {a n : Nat} {i : Int32} {ty : FieldType} (hT : G.1 a = some (.inl (ty, n))) (ht : ty.isReference = true) (hin : vp_in i n) (d : decode cc pc = .ok (.aaload, 1)) (kk : hX z cells slots G lv (pc + 1) (va_rf (gP G a i.toNatClampNeg) :: rest)) : hX z cells slots G lv pc (.int i :: .ref (gA G a) :: rest) := by
  intro H locs ls h1 h2 h3
  obtain ⟨ce, q1, q2, q3, q4, q5, -⟩ := h1.1 a _ hT
  refine W.aald (ty := ty) C.1 C.2.1 q1 q2 ht q3 (by rw [q4]; exact hin) (q5 _ (Nat.not_le.mp fun q => hin (Or.inr q))) rfl rfl d ?_
  have e : hav ty (G.2.1 a) (G.2.2.1 a) (gP G a) i.toNatClampNeg = va_rf (gP G a i.toNatClampNeg) := by
    cases ty <;> first | rfl | (simp [FieldType.isReference] at ht; done)
  show zW z H locs cells slots (pc + 1) ls (hav ty (G.2.1 a) (G.2.2.1 a) (gP G a) i.toNatClampNeg :: rest)
  rw [e]
  exact kk H locs ls h1 h2 h3
theorem x_iast (C : hC z own cc) {a n : Nat} {i x : Int32} (hT : G.1 a = some (.inl (.int, n))) (h0 : z0 z ≤ gA G a) (hin : vp_in i n) (d : decode cc pc = .ok (.iastore, 1)) (kk : hX z cells slots (gI G a i.toNatClampNeg x) lv (pc + 1) rest) : hX z cells slots G lv pc (.int x :: .int i :: .ref (gA G a) :: rest) := by
  intro H locs ls h1 h2 h3
  obtain ⟨ce, q1, q2, q3, q4, q5, q6⟩ := h1.1 a _ hT
  refine W.iast C.1 C.2.1 q1 q2 q3 (by rw [q4]; exact hin) rfl rfl d fun H' g1 g2 g3 => ?_
  refine kk H' _ ls (h1.put (a := a) hT g3 rfl rfl (fun q h => by simp [gI, va_up, h]) (fun _ _ => rfl) (fun _ _ => rfl) ?_) (h2.put g2 g3 h0) h3
  exact ⟨_, g1, q2, q3, by show (ce.slots.setIfInBounds _ _).size = _; rw [Array.size_setIfInBounds, q4], hav_upd q4 q5 (by simp [hav, gI, va_up, upd]) (fun j hj => by simp [hav, gI, va_up, upd, hj]), q6⟩
theorem x_zast (C : hC z own cc) {a n : Nat} {i x : Int32} (hT : G.1 a = some (.inl (.boolean, n))) (h0 : z0 z ≤ gA G a) (hin : vp_in i n) (hx : x = 0 ∨ x = 1) (d : decode cc pc = .ok (.bastore, 1)) (kk : hX z cells slots (gI G a i.toNatClampNeg x) lv (pc + 1) rest) : hX z cells slots G lv pc (.int x :: .int i :: .ref (gA G a) :: rest) := by
  intro H locs ls h1 h2 h3
  obtain ⟨ce, q1, q2, q3, q4, q5, q6⟩ := h1.1 a _ hT
  refine W.zast C.1 C.2.1 q1 q2 q3 (by rw [q4]; exact hin) rfl rfl d fun H' g1 g2 g3 => ?_
  rw [(nar_z hx).1] at g1
  refine kk H' _ ls (h1.put (a := a) hT g3 rfl rfl (fun q h => by simp [gI, va_up, h]) (fun _ _ => rfl) (fun _ _ => rfl) ?_) (h2.put g2 g3 h0) h3
  exact ⟨_, g1, q2, q3, by show (ce.slots.setIfInBounds _ _).size = _; rw [Array.size_setIfInBounds, q4], hav_upd q4 q5 (by simp [hav, gI, va_up, upd]) (fun j hj => by simp [hav, gI, va_up, upd, hj]), q6⟩
theorem x_last (C : hC z own cc) {a n : Nat} {i : Int32} {x : Int64} (hT : G.1 a = some (.inl (.long, n))) (h0 : z0 z ≤ gA G a) (hin : vp_in i n) (d : decode cc pc = .ok (.lastore, 1)) (kk : hX z cells slots (gL G a i.toNatClampNeg x) lv (pc + 1) rest) : hX z cells slots G lv pc (.long x :: .int i :: .ref (gA G a) :: rest) := by
  intro H locs ls h1 h2 h3
  obtain ⟨ce, q1, q2, q3, q4, q5, q6⟩ := h1.1 a _ hT
  refine W.last C.1 C.2.1 q1 q2 q3 (by rw [q4]; exact hin) rfl rfl d fun H' g1 g2 g3 => ?_
  refine kk H' _ ls (h1.put (a := a) hT g3 rfl rfl (fun _ _ => rfl) (fun q h => by simp [gL, va_up, h]) (fun _ _ => rfl) ?_) (h2.put g2 g3 h0) h3
  exact ⟨_, g1, q2, q3, by show (ce.slots.setIfInBounds _ _).size = _; rw [Array.size_setIfInBounds, q4], hav_upd q4 q5 (by simp [hav, gL, va_up, vp_updL]) (fun j hj => by simp [hav, gL, va_up, vp_updL, hj]), q6⟩
theorem x_alen (C : hC z own cc) {a : Nat} {t : FieldType × Nat} (hT : G.1 a = some (.inl t)) (d : decode cc pc = .ok (.arraylength, 1)) (kk : hX z cells slots G lv (pc + 1) (.int (nI t.2) :: rest)) : hX z cells slots G lv pc (.ref (gA G a) :: rest) := by
  intro H locs ls h1 h2 h3
  obtain ⟨ce, q1, q2, q3, q4, q5, -⟩ := h1.1 a _ hT
  exact W.alen (n := nI t.2) C.1 C.2.1 q1 q2 (by rw [q4] <;> rfl) rfl rfl d (kk H locs ls h1 h2 h3)
/-- the ends -/
theorem x_fit {y : MethodName} {ret : Option FieldType} {rm : Room} {post : Option Value → hG → Prop} {v : Option Value} (E : hE z y ret rm post) (hp : post v G) {H : Heap} {locs : List Loc} (h1 : HR (zs z) (zD z) G H) (h2 : va_S (fun q => z0 z ≤ q) (zs z).heap H locs) : ∀ t : State, t.heap = H → (zs z).WarmedH t.vm → (fun (_ : Array Value) (st : State) (oc : Outcome) (t : State) => (∃ (v : Option Value) (G : hG), oc = .returned v ∧ post v G ∧ HR t (zD z) G t.heap) ∧ va_F (fun q => z0 z ≤ q) st t) (za z) (zs z) (.returned v) t :=
  fun t ht hW => ⟨⟨v, G, rfl, hp, by rw [ht]; exact h1.moved hW.alike⟩, h2.F ht⟩
theorem x_iret {y : MethodName} {rm : Room} {post : Option Value → hG → Prop} {v : Int32} (C : hC z own cc) (E : hE z y (some .int) rm post) (hc : cells ≤ rm.cells) (hs : slots ≤ rm.slots) (d : decode cc pc = .ok (.ireturn, 1)) (hp : post (some (.int v)) G) : hX z cells slots G lv pc [.int v] := by
  intro H locs ls h1 h2 h3
  refine W.widen hc hs ?_
  show W _ _ _ _ _ _ _ _ _ _ _ _ _ _ (zQ z) _
  rw [E.2.2.2.2]
  exact W.iret C.1 C.2.1 E.1 (x_fit E hp h1 h2) h2.2.2 d E.2.1
theorem x_zret {y : MethodName} {rm : Room} {post : Option Value → hG → Prop} {v : Int32} (C : hC z own cc) (E : hE z y (some .boolean) rm post) (hx : v = 0 ∨ v = 1) (hc : cells ≤ rm.cells) (hs : slots ≤ rm.slots) (d : decode cc pc = .ok (.ireturn, 1)) (hp : post (some (.int v)) G) : hX z cells slots G lv pc [.int v] := by
  intro H locs ls h1 h2 h3
  refine W.widen hc hs ?_
  show W _ _ _ _ _ _ _ _ _ _ _ _ _ _ (zQ z) _
  rw [E.2.2.2.2]
  exact W.zret C.1 C.2.1 E.1 (nar_z hx).1 (x_fit E hp h1 h2) h2.2.2 d E.2.1
theorem x_lret {y : MethodName} {rm : Room} {post : Option Value → hG → Prop} {v : Int64} (C : hC z own cc) (E : hE z y (some .long) rm post) (hc : cells ≤ rm.cells) (hs : slots ≤ rm.slots) (d : decode cc pc = .ok (.lreturn, 1)) (hp : post (some (.long v)) G) : hX z cells slots G lv pc [.long v] := by
  intro H locs ls h1 h2 h3
  refine W.widen hc hs ?_
  show W _ _ _ _ _ _ _ _ _ _ _ _ _ _ (zQ z) _
  rw [E.2.2.2.2]
  exact W.lret C.1 C.2.1 E.1 (x_fit E hp h1 h2) h2.2.2 d E.2.1
theorem x_vret {y : MethodName} {rm : Room} {post : Option Value → hG → Prop} (C : hC z own cc) (E : hE z y none rm post) (hc : cells ≤ rm.cells) (hs : slots ≤ rm.slots) (d : decode cc pc = .ok (.return_, 1)) (hp : post none G) : hX z cells slots G lv pc [] := by
  intro H locs ls h1 h2 h3
  refine W.widen hc hs ?_
  show W _ _ _ _ _ _ _ _ _ _ _ _ _ _ (zQ z) _
  rw [E.2.2.2.2]
  exact W.vret C.1 C.2.1 E.1 (x_fit E hp h1 h2) h2.2.2 d E.2.1
theorem x_aret {y : MethodName} {rm : Room} {post : Option Value → hG → Prop} {v : Value} {n : String} (C : hC z own cc) (E : hE z y (some (.object n)) rm post) (hv : v = .null ∨ ∃ a, v = .ref a) (hc : cells ≤ rm.cells) (hs : slots ≤ rm.slots) (d : decode cc pc = .ok (.areturn, 1)) (hp : post (some v) G) : hX z cells slots G lv pc [v] := by
  intro H locs ls h1 h2 h3
  refine W.widen hc hs ?_
  show W _ _ _ _ _ _ _ _ _ _ _ _ _ _ (zQ z) _
  rw [E.2.2.2.2]
  exact W.aret C.1 C.2.1 E.1 (Or.inl ⟨n, rfl⟩) hv (x_fit E hp h1 h2) h2.2.2 d E.2.1
end HXC
