/-! ===== the talk, pure: a side's state as rows (0 ck, 1 h, 2 k, 3 takeKey, 4 ownE, 5 otherE, 6 otherS) and, in row 7, its numbers by field ===== -/
abbrev sgT : Type := Nat → Nat → Int32
def sgR (σ : sgT) (k : Nat) (f : Nat → Int32) : sgT := fun q => if q = k then f else σ q
def sFl (σ : sgT) (i : Nat) (v : Int32) : sgT := sgR σ 7 (upd (σ 7) i v)
def hkS (σ : sgT) : Bool := decide (σ 7 7 = nI 1)
theorem dhF_cg {s s' : Nat → Int32} {b b' : Nat → Nat} (hs : ∀ j, j < 32 → s j = s' j) (hb : ∀ j, j < 32 → b j = b' j) : dhF s b = dhF s' b' := by
  funext j
  unfold dhF
  rw [dh_cong b hs]
  unfold dhV ptV
  rw [bN_cg 32 hb]
def opE (sd : Int32) (σ : sgT) : sgT := sFl (sgR (sgR σ 4 (secF sd (σ 7 12 + nI 1))) 1 (mixF (σ 1) (pubF (secF sd (σ 7 12 + nI 1))) 32)) 12 (σ 7 12 + nI 1)
def dhS (sec : Nat → Int32) (ha t : Nat) (σ : sgT) : Nat → Int32 := dhF (if oEb t ha then σ 4 else sec) (fun j => byt ((if xEb t ha then σ 5 else σ 6) j))
def opD (sec : Nat → Int32) (ha t : Nat) (σ : sgT) : sgT := sFl (sFl (sgR (sgR σ 0 (key1 (σ 0) (dhS sec ha t σ) 32)) 2 (key2 (σ 0) (dhS sec ha t σ) 32)) 7 (nI 1)) 10 (nI 0)
def selF (σ : sgT) (f : Nat → Int32) (m : Nat) : Nat → Int32 := slF (hkS σ) (σ 2) (σ 7 10) 32 (fun j => byt (σ 1 j)) f m
def nxN (σ : sgT) : Int32 := if hkS σ then σ 7 10 + 1 else σ 7 10
def opS (σ : sgT) (f : Nat → Int32) (m : Nat) : sgT := sFl (sgR σ 1 (mixF (σ 1) (selF σ f m) (slN (hkS σ) m))) 10 (nxN σ)
def tagB (K : Nat → Int32) (n : Int32) (am : Nat) (X : Nat → Nat) (g : Nat → Int32) (m : Nat) : Bool := (List.range 16).all (fun j => decide (nI (tagO K n am X m (fun i => byt (g i)) j) = g (m + j)))
theorem tagB_iff {K : Nat → Int32} {n : Int32} {am : Nat} {X : Nat → Nat} {g : Nat → Int32} {m : Nat} : tagB K n am X g m = true ↔ tagR K n am X g m := by
  unfold tagB tagR
  rw [List.all_eq_true]
  constructor
  · intro h j hj; exact of_decide_eq_true (h j (List.mem_range.mpr hj))
  · intro h j hj; exact decide_eq_true (h j (List.mem_range.mp hj))
def opnO (σ : sgT) (g : Nat → Int32) (n : Nat) : Bool := !hkS σ || tagB (σ 2) (σ 7 10) 32 (fun j => byt (σ 1 j)) g (n - 16)
theorem opnO_iff {σ : sgT} {g : Nat → Int32} {n : Nat} : opnO σ g n = true ↔ (hkS σ = true → tagR (σ 2) (σ 7 10) 32 (fun j => byt (σ 1 j)) g (n - 16)) := by
  unfold opnO
  rw [← tagB_iff]
  cases hkS σ <;> simp
def opnF (σ : sgT) (g : Nat → Int32) : Nat → Int32 := opF (hkS σ) (σ 2) (σ 7 10) g
def opR (σ : sgT) (g : Nat → Int32) (n : Nat) : sgT := sFl (sgR σ 1 (mixF (σ 1) g n)) 10 (nxN σ)
def opX (σ : sgT) (g : Nat → Int32) : sgT := sFl (sgR (sgR σ 5 g) 1 (mixF (σ 1) g 32)) 8 (nI 1)
def opV (σ : sgT) (g : Nat → Int32) (n : Nat) : sgT := sFl (sgR (opR σ g n) 6 (opnF σ g)) 9 (nI 1)
def zR0 : Nat → Int32 := fun _ => nI 0
def opZ (ha ms nx : Nat) (σ : sgT) : sgT := if nx + 1 < ms then sFl σ 13 (nI (nx + 1)) else
  sFl (sFl (sFl (sFl (sgR (sgR σ 2 (if ha = 0 then key1 (σ 0) zR0 0 else key2 (σ 0) zR0 0)) 3 (if ha = 0 then key2 (σ 0) zR0 0 else key1 (σ 0) zR0 0)) 13 (nI (nx + 1))) 7 (nI 1)) 10 (nI 0)) 11 (nI 0)
/-- a row laid behind w places -/
def lay (W : Nat → Int32) (w : Nat) (f : Nat → Int32) : Nat → Int32 := fun j => if j < w then W j else f (j - w)
abbrev sdP : Type := sgT × (Nat → Int32) × Nat
def sdT (sd : Int32) (sec pub : Nat → Int32) (ha t : Nat) (p : sdP) : sdP :=
  if t = 0 then (opE sd p.1, lay p.2.1 p.2.2 (pubF (secF sd (p.1 7 12 + nI 1))), p.2.2 + 32)
  else if t = 1 then (opS p.1 pub 32, lay p.2.1 p.2.2 (selF p.1 pub 32), p.2.2 + slN (hkS p.1) 32)
  else (opD sec ha t p.1, p.2.1, p.2.2)
def sdK (sd : Int32) (sec pub : Nat → Int32) (ha : Nat) (tk : Nat → Nat) (σ : sgT) : Nat → sdP
  | 0 => (σ, zR0, 0)
  | k + 1 => sdT sd sec pub ha (tk k) (sdK sd sec pub ha tk σ k)
def sdM (sd : Int32) (sec pub : Nat → Int32) (ha ms nx : Nat) (tk : Nat → Nat) (n : Nat) (tp : Nat → Int32) (tn : Nat) (σ : sgT) : sdP :=
  (opZ ha ms nx (opS (sdK sd sec pub ha tk σ n).1 tp tn), lay (sdK sd sec pub ha tk σ n).2.1 (sdK sd sec pub ha tk σ n).2.2 (selF (sdK sd sec pub ha tk σ n).1 tp tn), (sdK sd sec pub ha tk σ n).2.2 + slN (hkS (sdK sd sec pub ha tk σ n).1) tn)
/-- reading: what is left is none where it is short or false -/
def nedT (hk : Bool) (t : Nat) : Nat := if t = 0 then 32 else if t = 1 then (if hk then 48 else 32) else 0
def rdT (sec : Nat → Int32) (ha : Nat) (lt : Nat → Int32) (ln t : Nat) (p : sgT × Nat) : Option (sgT × Nat) :=
  if t = 0 then (if p.2 + 32 ≤ ln then some (opX p.1 (fun j => lt (p.2 + j)), p.2 + 32) else none)
  else if t = 1 then (if p.2 + nedT (hkS p.1) 1 ≤ ln ∧ opnO p.1 (fun j => lt (p.2 + j)) (nedT (hkS p.1) 1) = true then some (opV p.1 (fun j => lt (p.2 + j)) (nedT (hkS p.1) 1), p.2 + nedT (hkS p.1) 1) else none)
  else some (opD sec ha t p.1, p.2)
def rdK (sec : Nat → Int32) (ha : Nat) (lt : Nat → Int32) (ln : Nat) (tk : Nat → Nat) (σ : sgT) : Nat → Option (sgT × Nat)
  | 0 => some (σ, 0)
  | k + 1 => (rdK sec ha lt ln tk σ k).bind (rdT sec ha lt ln (tk k))
def rdE (ha ms nx : Nat) (lt : Nat → Int32) (ln : Nat) (p : sgT × Nat) : Option sdP :=
  if (hkS p.1 = true → p.2 + 16 ≤ ln) ∧ opnO p.1 (fun j => lt (p.2 + j)) (ln - p.2) = true then some (opZ ha ms nx (opR p.1 (fun j => lt (p.2 + j)) (ln - p.2)), opnF p.1 (fun j => lt (p.2 + j)), opN (hkS p.1) (ln - p.2)) else none
def rdM (sec : Nat → Int32) (ha ms nx : Nat) (tk : Nat → Nat) (n : Nat) (lt : Nat → Int32) (ln : Nat) (σ : sgT) : Option sdP := (rdK sec ha lt ln tk σ n).bind (rdE ha ms nx lt ln)
theorem sgR_s {σ : sgT} {k : Nat} {f : Nat → Int32} : sgR σ k f k = f := if_pos rfl
theorem sgR_n {σ : sgT} {k q : Nat} {f : Nat → Int32} (h : q ≠ k) : sgR σ k f q = σ q := if_neg h
theorem sFl_n {σ : sgT} {q i : Nat} {v : Int32} (h : q ≠ 7) : sFl σ i v q = σ q := if_neg h
theorem sFl_s {σ : sgT} {i : Nat} {v : Int32} : sFl σ i v 7 = upd (σ 7) i v := by unfold sFl; exact sgR_s
theorem upd_cg {f g : Nat → Int32} {i j : Nat} {v : Int32} (h : f j = g j) : upd f i v j = upd g i v j := by unfold upd; rw [h]
theorem upd_cv {f g : Nat → Int32} {i j : Nat} {v w : Int32} (h : f j = g j) (hv : v = w) : upd f i v j = upd g i w j := by unfold upd; rw [h, hv]
/-- the class' State at u shows σ -/
def stE (σ : sgT) (I : Nat → Nat → Int32) (u : Nat) : Prop := (∀ k, k < 7 → ∀ j, j < 32 → I (u + 1 + k) j = σ k j) ∧ ∀ f, 7 ≤ f → f < 14 → I u f = σ 7 f
/-- what is always so of σ -/
def bS (σ : sgT) : Prop := (∀ j, j < 32 → byt (σ 1 j) < 256) ∧ (∀ j, j < 32 → byt (σ 5 j) < 256) ∧ (∀ j, j < 32 → byt (σ 6 j) < 256) ∧ ∀ f, 7 ≤ f → f < 10 → σ 7 f = 0 ∨ σ 7 f = 1
theorem hkS_b {σ : sgT} (h : bS σ) : σ 7 7 = bI (hkS σ) := by
  unfold hkS
  rcases h.2.2.2 7 (by decide) (by decide) with e | e
  · rw [e]; decide +kernel
  · rw [e]; decide +kernel
theorem slN_le (hk : Bool) (m : Nat) : slN hk m ≤ m + 16 := by unfold slN; split <;> omega
theorem slN_ge (hk : Bool) (m : Nat) : m ≤ slN hk m := by unfold slN; split <;> omega
theorem byt_pub (s : Nat → Int32) (j : Nat) : byt (pubF s j) < 256 := byt_n (Nat.mod_lt _ (by decide))
theorem bS.e {σ : sgT} (h : bS σ) (sd : Int32) : bS (opE sd σ) := by
  refine ⟨fun j hj => ?_, h.2.1, h.2.2.1, fun f h1 h2 => ?_⟩
  · exact byt_mix _ _ _ _
  · show upd (σ 7) 12 _ f = 0 ∨ upd (σ 7) 12 _ f = 1
    unfold upd; rw [if_neg (by omega)]; exact h.2.2.2 f h1 h2
theorem bS.d {σ : sgT} (h : bS σ) (sec : Nat → Int32) (ha t : Nat) : bS (opD sec ha t σ) := by
  refine ⟨h.1, h.2.1, h.2.2.1, fun f h1 h2 => ?_⟩
  show upd (upd (σ 7) 7 _) 10 _ f = 0 ∨ upd (upd (σ 7) 7 _) 10 _ f = 1
  unfold upd; rw [if_neg (by omega)]
  by_cases e : f = 7
  · rw [if_pos e]; exact Or.inr rfl
  · rw [if_neg e]; exact h.2.2.2 f h1 h2
theorem bS.s {σ : sgT} (h : bS σ) (f : Nat → Int32) (m : Nat) : bS (opS σ f m) := by
  refine ⟨fun j hj => byt_mix _ _ _ _, h.2.1, h.2.2.1, fun f h1 h2 => ?_⟩
  show upd (σ 7) 10 _ f = 0 ∨ upd (σ 7) 10 _ f = 1
  unfold upd; rw [if_neg (by omega)]; exact h.2.2.2 f h1 h2
theorem bS.r {σ : sgT} (h : bS σ) (g : Nat → Int32) (m : Nat) : bS (opR σ g m) := by
  refine ⟨fun j hj => byt_mix _ _ _ _, h.2.1, h.2.2.1, fun f h1 h2 => ?_⟩
  show upd (σ 7) 10 _ f = 0 ∨ upd (σ 7) 10 _ f = 1
  unfold upd; rw [if_neg (by omega)]; exact h.2.2.2 f h1 h2
theorem bS.x {σ : sgT} (h : bS σ) {g : Nat → Int32} (hg : ∀ j, j < 32 → byt (g j) < 256) : bS (opX σ g) := by
  refine ⟨fun j hj => byt_mix _ _ _ _, hg, h.2.2.1, fun f h1 h2 => ?_⟩
  show upd (σ 7) 8 _ f = 0 ∨ upd (σ 7) 8 _ f = 1
  unfold upd
  by_cases e : f = 8
  · rw [if_pos e]; exact Or.inr rfl
  · rw [if_neg e]; exact h.2.2.2 f h1 h2
theorem bS.v {σ : sgT} (h : bS σ) {g : Nat → Int32} {n : Nat} (hg : ∀ j, j < 32 → byt (g j) < 256) : bS (opV σ g n) := by
  refine ⟨fun j hj => byt_mix _ _ _ _, h.2.1, fun j hj => byt_op (hg j hj), fun f h1 h2 => ?_⟩
  show upd (upd (σ 7) 10 _) 9 _ f = 0 ∨ upd (upd (σ 7) 10 _) 9 _ f = 1
  unfold upd
  by_cases e : f = 9
  · rw [if_pos e]; exact Or.inr rfl
  · rw [if_neg e, if_neg (by omega)]; exact h.2.2.2 f h1 h2
theorem bS.z {σ : sgT} (h : bS σ) (ha ms nx : Nat) : bS (opZ ha ms nx σ) := by
  unfold opZ
  split
  · refine ⟨h.1, h.2.1, h.2.2.1, fun f h1 h2 => ?_⟩
    show upd (σ 7) 13 _ f = 0 ∨ upd (σ 7) 13 _ f = 1
    unfold upd; rw [if_neg (by omega)]; exact h.2.2.2 f h1 h2
  · refine ⟨h.1, h.2.1, h.2.2.1, fun f h1 h2 => ?_⟩
    show upd (upd (upd (upd (σ 7) 13 _) 7 _) 10 _) 11 _ f = 0 ∨ upd (upd (upd (upd (σ 7) 13 _) 7 _) 10 _) 11 _ f = 1
    unfold upd
    rw [if_neg (by omega), if_neg (by omega)]
    by_cases e : f = 7
    · rw [if_pos e]; exact Or.inr rfl
    · rw [if_neg e, if_neg (by omega)]; exact h.2.2.2 f h1 h2
/-! the class' steps show the pure ones -/
theorem lt7 {k : Nat} (h : k < 7) : k = 0 ∨ k = 1 ∨ k = 2 ∨ k = 3 ∨ k = 4 ∨ k = 5 ∨ k = 6 := by omega
theorem stE.fr {σ : sgT} {I J : Nat → Nat → Int32} {u : Nat} {S : List Nat} (h : stE σ I u) (f : fx S I J) (hs : ∀ k, k < 8 → u + k ∉ S) : stE σ J u := by
  refine ⟨fun k hk j hj => ?_, fun i h1 h2 => ?_⟩
  · rw [f (u + 1 + k) (by have := hs (1 + k) (by omega); rwa [show u + (1 + k) = u + 1 + k by omega] at this)]; exact h.1 k hk j hj
  · rw [f u (hs 0 (by decide))]; exact h.2 i h1 h2
theorem stE.e {σ : sgT} {I J : Nat → Nat → Int32} {u : Nat} {sd : Int32} {S : List Nat} (h : stE σ I u) (h4 : ∀ j, j < 32 → J (u + 1 + 4) j = secF sd (I u 12 + nI 1) j) (h1 : ∀ j, j < 32 → J (u + 1 + 1) j = mixF (I (u + 1 + 1)) (pubF (secF sd (I u 12 + nI 1))) 32 j) (hu : J u = upd (I u) 12 (I u 12 + nI 1)) (f : fx S I J) (hs : ∀ k, k < 7 → k ≠ 1 → k ≠ 4 → u + 1 + k ∉ S) : stE (opE sd σ) J u := by
  have e12 := h.2 12 (by decide) (by decide)
  refine ⟨fun k hk j hj => ?_, fun i g1 g2 => ?_⟩
  · rcases lt7 hk with rfl | rfl | rfl | rfl | rfl | rfl | rfl
    · rw [f _ (hs 0 (by decide) (by decide) (by decide))]; exact h.1 0 hk j hj
    · rw [h1 j hj, e12]; exact congrFun (mixF_cg (fun i hi => h.1 1 (by decide) i hi) (fun _ _ => rfl)) j
    · rw [f _ (hs 2 (by decide) (by decide) (by decide))]; exact h.1 2 hk j hj
    · rw [f _ (hs 3 (by decide) (by decide) (by decide))]; exact h.1 3 hk j hj
    · rw [h4 j hj, e12]; rfl
    · rw [f _ (hs 5 (by decide) (by decide) (by decide))]; exact h.1 5 hk j hj
    · rw [f _ (hs 6 (by decide) (by decide) (by decide))]; exact h.1 6 hk j hj
  · rw [hu]; exact upd_cv (h.2 i g1 g2) (by rw [e12])
theorem dhS_c {σ : sgT} {I : Nat → Nat → Int32} {u S ha t : Nat} {sec : Nat → Int32} (h : stE σ I u) (hsec : ∀ j, j < 32 → I (S + 1) j = sec j) : dhF (I (if oEb t ha then u + 1 + 4 else S + 1)) (fun j => byt (I (if xEb t ha then u + 1 + 5 else u + 1 + 6) j)) = dhS sec ha t σ := by
  unfold dhS
  refine dhF_cg (fun j hj => ?_) (fun j hj => ?_)
  · split
    · exact h.1 4 (by decide) j hj
    · exact hsec j hj
  · show byt _ = byt _
    congr 1
    split
    · exact h.1 5 (by decide) j hj
    · exact h.1 6 (by decide) j hj
theorem stE.d {σ : sgT} {I J : Nat → Nat → Int32} {u ha t : Nat} {sec x : Nat → Int32} {S : List Nat} (h : stE σ I u) (hx : x = dhS sec ha t σ) (h0 : ∀ j, j < 32 → J (u + 1 + 0) j = key1 (I (u + 1 + 0)) x 32 j) (h2 : ∀ j, j < 32 → J (u + 1 + 2) j = key2 (I (u + 1 + 0)) x 32 j) (hu : J u = upd (upd (I u) 7 (nI 1)) 10 (nI 0)) (f : fx S I J) (hs : ∀ k, k < 7 → k ≠ 0 → k ≠ 2 → u + 1 + k ∉ S) : stE (opD sec ha t σ) J u := by
  subst hx
  refine ⟨fun k hk j hj => ?_, fun i g1 g2 => ?_⟩
  · rcases lt7 hk with rfl | rfl | rfl | rfl | rfl | rfl | rfl
    · rw [h0 j hj]; exact congrFun (key1_cg (fun i hi => h.1 0 (by decide) i hi) (fun _ _ => rfl)) j
    · rw [f _ (hs 1 (by decide) (by decide) (by decide))]; exact h.1 1 hk j hj
    · rw [h2 j hj]; exact congrFun (key2_cg (fun i hi => h.1 0 (by decide) i hi) (fun _ _ => rfl)) j
    · rw [f _ (hs 3 (by decide) (by decide) (by decide))]; exact h.1 3 hk j hj
    · rw [f _ (hs 4 (by decide) (by decide) (by decide))]; exact h.1 4 hk j hj
    · rw [f _ (hs 5 (by decide) (by decide) (by decide))]; exact h.1 5 hk j hj
    · rw [f _ (hs 6 (by decide) (by decide) (by decide))]; exact h.1 6 hk j hj
  · rw [hu]; exact upd_cg (upd_cg (h.2 i g1 g2))
theorem selF_c {σ : sgT} {I : Nat → Nat → Int32} {u m : Nat} {f g : Nat → Int32} {hk : Bool} {nv : Int32} (h : stE σ I u) (ehk : hk = hkS σ) (env : nv = σ 7 10) (hf : ∀ j, j < m → f j = g j) (j : Nat) (hj : j < slN (hkS σ) m) : slF hk (I (u + 1 + 2)) nv 32 (fun j => byt (I (u + 1 + 1) j)) f m j = selF σ g m j := by
  subst ehk; subst env
  exact slF_cg (fun i hi => h.1 2 (by decide) i hi) (fun j hj => by show byt _ = byt _; rw [h.1 1 (by decide) j hj]) hf j hj
theorem stE.h {σ : sgT} {I J : Nat → Nat → Int32} {u : Nat} {y : Nat → Int32} {v v' : Int32} {S : List Nat} (h : stE σ I u) (h1 : ∀ j, j < 32 → J (u + 1 + 1) j = y j) (hu : J u = upd (I u) 10 v) (hv : v = v') (f : fx S I J) (hs : ∀ k, k < 7 → k ≠ 1 → u + 1 + k ∉ S) : stE (sFl (sgR σ 1 y) 10 v') J u := by
  subst hv
  refine ⟨fun k hk j hj => ?_, fun i g1 g2 => ?_⟩
  · by_cases e : k = 1
    · subst e; rw [h1 j hj]; rfl
    · rw [f _ (hs k hk e)]; show _ = (if k = 7 then _ else if k = 1 then _ else σ k) j; rw [if_neg (by omega), if_neg e]; exact h.1 k hk j hj
  · rw [hu]; exact upd_cg (h.2 i g1 g2)
theorem stE.s {σ : sgT} {I J : Nat → Nat → Int32} {u m : Nat} {f g : Nat → Int32} {hk : Bool} {nv : Int32} {S : List Nat} (h : stE σ I u) (ehk : hk = hkS σ) (env : nv = σ 7 10) (hf : ∀ j, j < m → f j = g j) (h1 : ∀ j, j < 32 → J (u + 1 + 1) j = mixF (I (u + 1 + 1)) (slF hk (I (u + 1 + 2)) nv 32 (fun j => byt (I (u + 1 + 1) j)) f m) (slN hk m) j) (hu : J u = upd (I u) 10 (if hk then nv + 1 else nv)) (F : fx S I J) (hs : ∀ k, k < 7 → k ≠ 1 → u + 1 + k ∉ S) : stE (opS σ g m) J u := by
  refine stE.h h (fun j hj => (h1 j hj).trans ?_) hu (by subst ehk; subst env; rfl) F hs
  have e2 := selF_c h ehk env hf
  subst ehk
  exact congrFun (mixF_cg (fun i hi => h.1 1 (by decide) i hi) (fun i hi => e2 i hi)) j
theorem stE.z {σ : sgT} {I J : Nat → Nat → Int32} {u ha ms nx : Nat} (h : stE σ I u) (ha2 : ha < 2) (p : (nx + 1 < ms ∧ J = va_up I u (upd (I u) 13 (nI (nx + 1)))) ∨ (ms ≤ nx + 1 ∧ ((ha = 0 ∧ (∀ i, i < 32 → J (u + 1 + 2) i = key1 (I (u + 1 + 0)) (fun _ => nI 0) 0 i) ∧ ∀ i, i < 32 → J (u + 1 + 3) i = key2 (I (u + 1 + 0)) (fun _ => nI 0) 0 i) ∨ (ha = 1 ∧ (∀ i, i < 32 → J (u + 1 + 2) i = key2 (I (u + 1 + 0)) (fun _ => nI 0) 0 i) ∧ ∀ i, i < 32 → J (u + 1 + 3) i = key1 (I (u + 1 + 0)) (fun _ => nI 0) 0 i)) ∧ J u = upd (upd (upd (upd (I u) 13 (nI (nx + 1))) 7 (nI 1)) 10 (nI 0)) 11 (nI 0) ∧ fx [115, 116, 117, 118, 119, 120, u, u + 1 + 2, u + 1 + 3] I J)) (hu : 143 ≤ u) : stE (opZ ha ms nx σ) J u := by
  unfold opZ
  rcases p with ⟨p1, p2⟩ | ⟨p1, p2, p3, f⟩
  · rw [if_pos p1, p2]
    refine ⟨fun k hk j hj => ?_, fun i g1 g2 => ?_⟩
    · rw [va_up_other _ _ (by omega), sFl_n (by omega)]; exact h.1 k hk j hj
    · rw [va_up_same, sFl_s]; exact upd_cg (h.2 i g1 g2)
  · rw [if_neg (by omega)]
    have k1 : ∀ j, key1 (I (u + 1 + 0)) (fun _ => nI 0) 0 j = key1 (σ 0) zR0 0 j := fun j => congrFun (key1_cg (fun i hi => h.1 0 (by decide) i hi) (fun _ _ => rfl)) j
    have k2 : ∀ j, key2 (I (u + 1 + 0)) (fun _ => nI 0) 0 j = key2 (σ 0) zR0 0 j := fun j => congrFun (key2_cg (fun i hi => h.1 0 (by decide) i hi) (fun _ _ => rfl)) j
    refine ⟨fun k hk j hj => ?_, fun i g1 g2 => ?_⟩
    · rw [sFl_n (by omega), sFl_n (by omega), sFl_n (by omega), sFl_n (by omega)]
      by_cases e3 : k = 3
      · subst e3; rw [sgR_s]
        rcases p2 with ⟨q, q1, q2⟩ | ⟨q, q1, q2⟩
        · rw [if_pos q, q2 j hj, k2]
        · rw [if_neg (by omega), q2 j hj, k1]
      · rw [sgR_n e3]
        by_cases e2 : k = 2
        · subst e2; rw [sgR_s]
          rcases p2 with ⟨q, q1, q2⟩ | ⟨q, q1, q2⟩
          · rw [if_pos q, q1 j hj, k1]
          · rw [if_neg (by omega), q1 j hj, k2]
        · rw [sgR_n e2, f _ (by simp; omega)]; exact h.1 k hk j hj
    · rw [p3, sFl_s, sFl_s, sFl_s, sFl_s, sgR_n (by decide), sgR_n (by decide)]; exact upd_cg (upd_cg (upd_cg (upd_cg (h.2 i g1 g2))))
theorem endM_fx {I J : Nat → Nat → Int32} {u ha ms nx : Nat} (p : (nx + 1 < ms ∧ J = va_up I u (upd (I u) 13 (nI (nx + 1)))) ∨ (ms ≤ nx + 1 ∧ ((ha = 0 ∧ (∀ i, i < 32 → J (u + 1 + 2) i = key1 (I (u + 1 + 0)) (fun _ => nI 0) 0 i) ∧ ∀ i, i < 32 → J (u + 1 + 3) i = key2 (I (u + 1 + 0)) (fun _ => nI 0) 0 i) ∨ (ha = 1 ∧ (∀ i, i < 32 → J (u + 1 + 2) i = key2 (I (u + 1 + 0)) (fun _ => nI 0) 0 i) ∧ ∀ i, i < 32 → J (u + 1 + 3) i = key1 (I (u + 1 + 0)) (fun _ => nI 0) 0 i)) ∧ J u = upd (upd (upd (upd (I u) 13 (nI (nx + 1))) 7 (nI 1)) 10 (nI 0)) 11 (nI 0) ∧ fx [115, 116, 117, 118, 119, 120, u, u + 1 + 2, u + 1 + 3] I J)) : fx [115, 116, 117, 118, 119, 120, u, u + 1 + 2, u + 1 + 3] I J := by
  rcases p with ⟨-, p2⟩ | ⟨-, -, -, f⟩
  · rw [p2]; exact fx.rf.up (by simp)
  · exact f
theorem stE.x {σ : sgT} {I J : Nat → Nat → Int32} {u : Nat} {g g' : Nat → Int32} {S : List Nat} (h : stE σ I u) (hg : ∀ j, j < 32 → g j = g' j) (h5 : ∀ j, j < 32 → J (u + 1 + 5) j = g j) (h1 : ∀ j, j < 32 → J (u + 1 + 1) j = mixF (I (u + 1 + 1)) g 32 j) (hu : J u = upd (I u) 8 (nI 1)) (f : fx S I J) (hs : ∀ k, k < 7 → k ≠ 1 → k ≠ 5 → u + 1 + k ∉ S) : stE (opX σ g') J u := by
  refine ⟨fun k hk j hj => ?_, fun i g1 g2 => ?_⟩
  · unfold opX
    rw [sFl_n (by omega)]
    by_cases e1 : k = 1
    · subst e1; rw [sgR_s, h1 j hj]; exact congrFun (mixF_cg (fun i hi => h.1 1 (by decide) i hi) hg) j
    · rw [sgR_n e1]
      by_cases e5 : k = 5
      · subst e5; rw [sgR_s, h5 j hj, hg j hj]
      · rw [sgR_n e5, f _ (hs k hk e1 e5)]; exact h.1 k hk j hj
  · rw [hu]; exact upd_cg (h.2 i g1 g2)
theorem stE.r {σ : sgT} {I J : Nat → Nat → Int32} {u n : Nat} {g g' : Nat → Int32} {hk : Bool} {nv : Int32} {S : List Nat} (h : stE σ I u) (ehk : hk = hkS σ) (env : nv = σ 7 10) (hg : ∀ j, j < n → g j = g' j) (h1 : ∀ j, j < 32 → J (u + 1 + 1) j = mixF (I (u + 1 + 1)) g n j) (hu : J u = upd (I u) 10 (if hk then nv + 1 else nv)) (f : fx S I J) (hs : ∀ k, k < 7 → k ≠ 1 → u + 1 + k ∉ S) : stE (opR σ g' n) J u := by
  refine stE.h h (fun j hj => (h1 j hj).trans ?_) hu (by subst ehk; subst env; rfl) f hs
  exact congrFun (mixF_cg (fun i hi => h.1 1 (by decide) i hi) hg) j
theorem opn_c {σ : sgT} {I : Nat → Nat → Int32} {u n : Nat} {g g' : Nat → Int32} {nv : Int32} (h : stE σ I u) (env : nv = σ 7 10) (hg : ∀ j, j < n → g j = g' j) (hn : hkS σ = true → 16 ≤ n) (hk : hkS σ = true) : tagR (I (u + 1 + 2)) nv 32 (fun j => byt (I (u + 1 + 1) j)) g (n - 16) ↔ tagR (σ 2) (σ 7 10) 32 (fun j => byt (σ 1 j)) g' (n - 16) := by
  subst env
  have := hn hk
  exact tagR_cg (fun i hi => h.1 2 (by decide) i hi) (fun j hj => by show byt _ = byt _; rw [h.1 1 (by decide) j hj]) (fun j hj => hg j (by omega))
theorem stE.v {σ : sgT} {I J : Nat → Nat → Int32} {u : Nat} {f : Nat → Int32} {S : List Nat} (h : stE σ I u) (h6 : ∀ j, j < 32 → J (u + 1 + 6) j = f j) (hu : J u = upd (I u) 9 (nI 1)) (F : fx S I J) (hs : ∀ k, k < 7 → k ≠ 6 → u + 1 + k ∉ S) : stE (sFl (sgR σ 6 f) 9 (nI 1)) J u := by
  refine ⟨fun k hk j hj => ?_, fun i g1 g2 => ?_⟩
  · rw [sFl_n (by omega)]
    by_cases e : k = 6
    · subst e; rw [sgR_s, h6 j hj]
    · rw [sgR_n e, F _ (hs k hk e)]; exact h.1 k hk j hj
  · rw [hu, sFl_s]; exact upd_cg (h.2 i g1 g2)
/-! letters fit -/
def lnT (t : Nat) : Nat := if t = 0 then 32 else if t = 1 then 48 else 0
def lnK (tk : Nat → Nat) : Nat → Nat
  | 0 => 0
  | k + 1 => lnK tk k + lnT (tk k)
theorem lnK_mono {tk : Nat → Nat} {a b : Nat} (h : a ≤ b) : lnK tk a ≤ lnK tk b := by
  induction b with
  | zero => rw [show a = 0 by omega]; exact Nat.le_refl _
  | succ b ih =>
    by_cases e : a = b + 1
    · rw [e]; exact Nat.le_refl _
    · exact Nat.le_trans (ih (by omega)) (Nat.le_add_right _ _)
theorem sdT_len {sd : Int32} {sec pub : Nat → Int32} {ha t : Nat} {p : sdP} : (sdT sd sec pub ha t p).2.2 ≤ p.2.2 + lnT t := by
  unfold sdT lnT
  split
  · exact Nat.le_refl _
  · split
    · exact Nat.add_le_add_left (slN_le _ _) _
    · exact Nat.le_refl _
theorem sdK_len {sd : Int32} {sec pub : Nat → Int32} {ha : Nat} {tk : Nat → Nat} {σ : sgT} : ∀ k, (sdK sd sec pub ha tk σ k).2.2 ≤ lnK tk k
  | 0 => Nat.le_refl _
  | k + 1 => Nat.le_trans sdT_len (Nat.add_le_add_right (sdK_len k) _)
theorem sdT_b {sd : Int32} {sec pub : Nat → Int32} {ha t : Nat} {p : sdP} (h : bS p.1) : bS (sdT sd sec pub ha t p).1 := by
  unfold sdT
  split
  · exact h.e sd
  · split
    · exact h.s _ _
    · exact h.d _ _ _
theorem sdK_b {sd : Int32} {sec pub : Nat → Int32} {ha : Nat} {tk : Nat → Nat} {σ : sgT} (h : bS σ) : ∀ k, bS (sdK sd sec pub ha tk σ k).1
  | 0 => h
  | k + 1 => sdT_b (sdK_b h k)
theorem lay_b {W f : Nat → Int32} {w n : Nat} (hW : ∀ j, j < w → byt (W j) < 256) (hf : ∀ j, j < n → byt (f j) < 256) : ∀ j, j < w + n → byt (lay W w f j) < 256 := by
  intro j hj
  unfold lay
  split
  · rename_i h; exact hW j h
  · exact hf _ (by omega)
theorem selF_b {σ : sgT} {f : Nat → Int32} {m : Nat} (hf : ∀ j, j < m → byt (f j) < 256) : ∀ j, j < slN (hkS σ) m → byt (selF σ f m j) < 256 := fun j hj => byt_sl hf j hj
theorem sdT_lb {sd : Int32} {sec pub : Nat → Int32} {ha t : Nat} {p : sdP} (hp : ∀ j, j < 32 → byt (pub j) < 256) (h : ∀ j, j < p.2.2 → byt (p.2.1 j) < 256) : ∀ j, j < (sdT sd sec pub ha t p).2.2 → byt ((sdT sd sec pub ha t p).2.1 j) < 256 := by
  unfold sdT
  split
  · exact lay_b h (fun j _ => byt_pub _ _)
  · split
    · exact lay_b h (selF_b hp)
    · exact h
theorem sdK_lb {sd : Int32} {sec pub : Nat → Int32} {ha : Nat} {tk : Nat → Nat} {σ : sgT} (hp : ∀ j, j < 32 → byt (pub j) < 256) : ∀ k, ∀ j, j < (sdK sd sec pub ha tk σ k).2.2 → byt ((sdK sd sec pub ha tk σ k).2.1 j) < 256
  | 0 => fun j hj => absurd hj (Nat.not_lt_zero j)
  | k + 1 => sdT_lb hp (sdK_lb hp k)
theorem sdK_7 {sd : Int32} {sec pub : Nat → Int32} {ha : Nat} {tk : Nat → Nat} {σ : sgT} {f : Nat} (hf : f = 8 ∨ f = 9 ∨ f = 11 ∨ f = 13) : ∀ k, (sdK sd sec pub ha tk σ k).1 7 f = σ 7 f
  | 0 => rfl
  | k + 1 => by
    rw [← sdK_7 (sd := sd) (sec := sec) (pub := pub) (ha := ha) (tk := tk) (σ := σ) hf k]
    show (sdT _ _ _ _ _ _).1 7 f = _
    unfold sdT
    split
    · show upd _ 12 _ f = _; unfold upd; rw [if_neg (by omega)]; rfl
    · split
      · show upd _ 10 _ f = _; unfold upd; rw [if_neg (by omega)]; rfl
      · show upd (upd _ 7 _) 10 _ f = _; unfold upd; rw [if_neg (by omega), if_neg (by omega)]; rfl
theorem lay_s {J : Nat → Int32} {W f : Nat → Int32} {w n : Nat} (h1 : ∀ j, j < w → J j = W j) (h2 : ∀ j, j < n → J (w + j) = f j) : ∀ j, j < w + n → J j = lay W w f j := by
  intro j hj
  unfold lay
  split
  · rename_i h; exact h1 j h
  · have := h2 (j - w) (by omega); rwa [show w + (j - w) = j by omega] at this
