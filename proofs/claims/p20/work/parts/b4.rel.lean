/-! ===== the world that class and model show ===== -/
/-- a contract with more room -/
theorem hM.wk {l : Launch} {a0 : Nat} {D : va_G} {sa : Nat → Nat} {y : MethodName} {cc : ByteArray} {nL : Nat} {ret : Option FieldType} {rm rm' : Room} {av : List Value} {G : hG} {post post' : Option Value → hG → Prop} (h : hM l a0 D sa y cc nL ret rm av G post) (hr : rm.frames ≤ rm'.frames ∧ rm.cells ≤ rm'.cells ∧ rm.slots ≤ rm'.slots ∧ rm.locals ≤ rm'.locals) (hp : ∀ r G', post r G' → post' r G') : hM l a0 D sa y cc nL ret rm' av G post' := by
  intro p e h1 h2 h3 s m args below hfr happ hP hK
  have hq := (Spec.appliesLoose_iff hfr).mp happ
  obtain ⟨q1, q2, q3, q4, q5, q6, q7, q8⟩ := hq
  have hroom : s.hasRoom e.platform rm = true := by
    have q7 : s.hasRoom e.platform rm' = true := q7
    unfold State.hasRoom at q7 ⊢
    simp only [Bool.and_eq_true, decide_eq_true_eq] at q7 ⊢
    obtain ⟨⟨⟨⟨a1, a2, a3, a4, a5, a6⟩, a7⟩, a8⟩, a9⟩ := q7
    refine ⟨⟨⟨⟨by omega, by omega, by omega, by omega, by omega, a6⟩, by omega⟩, by omega⟩, a9⟩
  obtain ⟨n, o, k1, k2, k3, ⟨⟨v, G', e1, e2, e3⟩, e4⟩, L, ⟨f1, f2, f3⟩, f4⟩ := h p e h1 h2 h3 s m args below hfr ((Spec.appliesLoose_iff hfr).mpr ⟨q1, q2, q3, q4, q5, q6, hroom, q8⟩) hP hK
  exact ⟨n, o, k1, k2, k3, ⟨⟨v, G', e1, hp _ _ e2, e3⟩, e4⟩, L, ⟨f1, f2, f3.weaken (fun x hx _ => hx) hr.2.1 hr.2.2.1⟩, f4⟩
abbrev wP : Type := (Nat → Bool) × Nat × (Nat → Nat) × (Nat → Nat → Nat)
abbrev pKn (w : wP) : Nat → Bool := w.1
abbrev pMs (w : wP) : Nat := w.2.1
abbrev pSz (w : wP) : Nat → Nat := w.2.2.1
abbrev pTk (w : wP) : Nat → Nat → Nat := w.2.2.2
/-- pattern, hand, seed of e, s, other, next, state -/
abbrev wS : Type := Nat × Nat × Int32 × Int32 × Int32 × Nat × sgT
abbrev sPa (w : wS) : Nat := w.1
abbrev sHa (w : wS) : Nat := w.2.1
abbrev sSd (w : wS) : Int32 := w.2.2.1
abbrev sSv (w : wS) : Int32 := w.2.2.2.1
abbrev sOv (w : wS) : Int32 := w.2.2.2.2.1
abbrev sNx (w : wS) : Nat := w.2.2.2.2.2.1
abbrev sSg (w : wS) : sgT := w.2.2.2.2.2.2
def sSet (w : wS) (nx : Nat) (σ : sgT) : wS := (sPa w, sHa w, sSd w, sSv w, sOv w, nx, σ)
abbrev wR : Type := Nat × (Nat → Int32)
abbrev wW : Type := Nat × (Nat → wP) × Nat × (Nat → wS) × wR × wR × wR
abbrev wnp (W : wW) : Nat := W.1
abbrev wpt (W : wW) : Nat → wP := W.2.1
abbrev wns (W : wW) : Nat := W.2.2.1
abbrev wsd (W : wW) : Nat → wS := W.2.2.2.1
abbrev wtp (W : wW) : wR := W.2.2.2.2.1
abbrev wlt (W : wW) : wR := W.2.2.2.2.2.1
abbrev wgt (W : wW) : wR := W.2.2.2.2.2.2
abbrev sPt (W : wW) (s : Nat) : wP := wpt W (sPa (wsd W s))
def hsW (W : wW) (p : Nat) : Bool := (List.range (wns W)).any (fun s => decide (sPa (wsd W s) = p))
theorem hsW_iff {W : wW} {p : Nat} : hsW W p = true ↔ ∃ s, s < wns W ∧ sPa (wsd W s) = p := by
  unfold hsW
  rw [List.any_eq_true]
  constructor
  · rintro ⟨s, h1, h2⟩; exact ⟨s, List.mem_range.mp h1, of_decide_eq_true h2⟩
  · rintro ⟨s, h1, h2⟩; exact ⟨s, List.mem_range.mpr h1, decide_eq_true h2⟩
/-! the class -/
def XPat (T : Nat → Option hKd) (I : Nat → Nat → Int32) (R : Nat → Nat → Option Nat) (A : Nat → Nat) (a0 p : Nat) (w : wP) (hs : Bool) : Prop := R 101 p = some (200 + 10 * p) ∧ isPt T R A a0 (200 + 10 * p) ∧ ptI I (200 + 10 * p) (pKn w) (pMs w) (pSz w) (pTk w) hs
def XSid (T : Nat → Option hKd) (I : Nat → Nat → Int32) (R : Nat → Nat → Option Nat) (A : Nat → Nat) (a0 s : Nat) (w : wS) : Prop := R 102 s = some (300 + 20 * s) ∧ isSd T R A a0 (300 + 20 * s) (200 + 10 * sPa w) ∧ (I (300 + 20 * s) 1 = nI (sPa w) ∧ I (300 + 20 * s) 2 = nI (sHa w) ∧ I (300 + 20 * s) 3 = sSd w ∧ I (300 + 20 * s) 7 = bI (decide (sOv w ≠ -1))) ∧ ((∀ j, j < 32 → I (300 + 20 * s + 1) j = secV (sSv w) j) ∧ (∀ j, j < 32 → I (300 + 20 * s + 2) j = pubV (sSv w) j) ∧ ∀ j, j < 32 → I (300 + 20 * s + 3) j = pubV (sOv w) j) ∧ stE (sSg w) I (300 + 20 * s + 4)
def XRow (I : Nat → Nat → Int32) (q c : Nat) (r : wR) : Prop := I q 1 = nI r.1 ∧ ∀ j, j < r.1 → I c j = r.2 j
def freT (n m : Nat) (T : Nat → Option hKd) (R : Nat → Nat → Option Nat) : Prop := ∀ q, n ≤ q → q < m → T q = none ∧ ∀ p j, R p j ≠ some q
def XHp (a0 : Nat) (sa : Nat → Nat) (np ns : Nat) (T : Nat → Option hKd) (R : Nat → Nat → Option Nat) (A : Nat → Nat) : Prop := isX T R A a0 ∧ (∀ k, k < 5 → sa k = A (90 + k)) ∧ (∃ p q r s, cv4 R p q r s) ∧ freT (200 + 10 * np) 300 T R ∧ freT (300 + 20 * ns) 400 T R
def XR (a0 : Nat) (sa : Nat → Nat) (W : wW) (T : Nat → Option hKd) (I : Nat → Nat → Int32) (R : Nat → Nat → Option Nat) (A : Nat → Nat) : Prop := XHp a0 sa (wnp W) (wns W) T R A ∧ (stI I ∧ I 100 7 = nI (wnp W) ∧ I 100 8 = nI (wns W)) ∧ (∀ p, p < wnp W → XPat T I R A a0 p (wpt W p) (hsW W p)) ∧ (∀ s, s < wns W → XSid T I R A a0 s (wsd W s)) ∧ XRow I 103 104 (wtp W) ∧ XRow I 105 106 (wlt W) ∧ XRow I 107 108 (wgt W)
theorem XHp.r121 {a0 np ns : Nat} {sa : Nat → Nat} {T : Nat → Option hKd} {R R' : Nat → Nat → Option Nat} {A : Nat → Nat} (h : XHp a0 sa np ns T R A) (f : fr121 R R') (c : ∃ p q r s, cv4 R' p q r s) : XHp a0 sa np ns T R' A := by
  obtain ⟨h1, h2, _, h4, h5⟩ := h
  have go : ∀ n m, 200 ≤ n → freT n m T R → freT n m T R' := by
    intro n m hn F q a b
    refine ⟨(F q a b).1, fun p j e => ?_⟩
    by_cases hp : p = 121
    · subst hp
      obtain ⟨p1, p2, p3, p4, hc⟩ := c
      rcases (show j < 2 ∨ 5 < j ∨ j = 2 ∨ j = 3 ∨ j = 4 ∨ j = 5 by omega) with hj | hj | rfl | rfl | rfl | rfl
      · rw [f.2 j (Or.inl hj)] at e; exact (F q a b).2 _ _ e
      · rw [f.2 j (Or.inr hj)] at e; exact (F q a b).2 _ _ e
      · rw [hc.1.1] at e; cases e; have := hc.2.1; omega
      · rw [hc.1.2.1] at e; cases e; have := hc.2.1; omega
      · rw [hc.1.2.2.1] at e; cases e; have := hc.2.1; omega
      · rw [hc.1.2.2.2] at e; cases e; have := hc.2.1; omega
    · rw [f.1 p hp] at e; exact (F q a b).2 _ _ e
  exact ⟨isX.r121 h1 f, h2, c, go _ _ (by omega) h4, go _ _ (by omega) h5⟩
theorem XPat.fr {T : Nat → Option hKd} {I J : Nat → Nat → Int32} {R R' : Nat → Nat → Option Nat} {A : Nat → Nat} {a0 p : Nat} {w : wP} {hs : Bool} (h : XPat T I R A a0 p w hs) (f : fr121 R R') (e : ∀ q, 200 + 10 * p ≤ q → q < 200 + 10 * p + 10 → J q = I q) : XPat T J R' A a0 p w hs := ⟨by rw [f.1 101 (by decide)]; exact h.1, isPt.r121 h.2.1 (by omega) f, ptI.ext h.2.2 e⟩
theorem stE.ext {σ : sgT} {I J : Nat → Nat → Int32} {u : Nat} (h : stE σ I u) (e : ∀ k, k < 8 → J (u + k) = I (u + k)) : stE σ J u := ⟨fun k hk j hj => by rw [show u + 1 + k = u + (1 + k) by omega, e _ (by omega), ← show u + 1 + k = u + (1 + k) by omega]; exact h.1 k hk j hj, fun f h1 h2 => by have := e 0 (by decide); rw [show u + 0 = u from rfl] at this; rw [this]; exact h.2 f h1 h2⟩
theorem XSid.up {T : Nat → Option hKd} {I J : Nat → Nat → Int32} {R R' : Nat → Nat → Option Nat} {A : Nat → Nat} {a0 s nx : Nat} {w : wS} {σ : sgT} (h : XSid T I R A a0 s w) (f : fr121 R R') (e : ∀ q, 300 + 20 * s ≤ q → q < 300 + 20 * s + 4 → J q = I q) (hσ : stE σ J (300 + 20 * s + 4)) : XSid T J R' A a0 s (sSet w nx σ) := by
  refine ⟨by rw [f.1 102 (by decide)]; exact h.1, isSd.r121 h.2.1 (by omega) f, ?_, ?_, hσ⟩
  · rw [e _ (by omega) (by omega)]; exact h.2.2.1
  · rw [e (300 + 20 * s + 1) (by omega) (by omega), e (300 + 20 * s + 2) (by omega) (by omega), e (300 + 20 * s + 3) (by omega) (by omega)]; exact h.2.2.2.1
theorem XSid.fr {T : Nat → Option hKd} {I J : Nat → Nat → Int32} {R R' : Nat → Nat → Option Nat} {A : Nat → Nat} {a0 s : Nat} {w : wS} (h : XSid T I R A a0 s w) (f : fr121 R R') (e : ∀ q, 300 + 20 * s ≤ q → q < 300 + 20 * s + 12 → J q = I q) : XSid T J R' A a0 s w := XSid.up (nx := sNx w) (σ := sSg w) h f (fun q a b => e q a (by omega)) (h.2.2.2.2.ext (fun k hk => e _ (by omega) (by omega)))
def setS (W : wW) (s : Nat) (w : wS) (t l g : wR) : wW := (W.1, W.2.1, W.2.2.1, upN (wsd W) s w, t, l, g)
def setR (W : wW) (t l g : wR) : wW := (W.1, W.2.1, W.2.2.1, W.2.2.2.1, t, l, g)
def setP (W : wW) (p : Nat) (w : wP) : wW := (W.1, upN (wpt W) p w, W.2.2)
theorem upN_s {α : Type} {f : Nat → α} {k : Nat} {v : α} : upN f k v k = v := if_pos rfl
theorem upN_o {α : Type} {f : Nat → α} {k j : Nat} {v : α} (h : j ≠ k) : upN f k v j = f j := if_neg h
theorem hsW_S {W : wW} {s : Nat} {w : wS} {t l g : wR} (e : sPa w = sPa (wsd W s)) (p : Nat) : hsW (setS W s w t l g) p = hsW W p := by
  unfold hsW
  show (List.range (wns W)).any (fun s' => decide (sPa (upN (wsd W) s w s') = p)) = _
  congr 1
  funext s'
  by_cases h : s' = s
  · subst h; rw [upN_s, e]
  · rw [upN_o h]
/-- a side's state and the rows change -/
theorem XR.side {a0 s nx : Nat} {sa : Nat → Nat} {W : wW} {T : Nat → Option hKd} {I J : Nat → Nat → Int32} {R R' : Nat → Nat → Option Nat} {A : Nat → Nat} {σ : sgT} {t l g : wR} (h : XR a0 sa W T I R A) (hs : s < wns W) (hn4 : wns W ≤ 4) (hn8 : wnp W ≤ 8) (e : ∀ q, q < 103 ∨ 155 < q → ¬ (300 + 20 * s + 4 ≤ q ∧ q < 300 + 20 * s + 12) → J q = I q) (f : fr121 R R') (c : ∃ p q r s, cv4 R' p q r s) (hσ : stE σ J (300 + 20 * s + 4)) (ht : XRow J 103 104 t) (hl : XRow J 105 106 l) (hg : XRow J 107 108 g) : XR a0 sa (setS W s (sSet (wsd W s) nx σ) t l g) T J R' A := by
  obtain ⟨h1, ⟨h2, h3, h4⟩, h5, h6, _⟩ := h
  refine ⟨h1.r121 f c, ⟨h2.ext (fun q a b => e q (Or.inl (by omega)) (by omega)), ?_, ?_⟩, fun p hp => ?_, fun s' hs' => ?_, ht, hl, hg⟩
  · rw [e 100 (by decide) (by omega)]; exact h3
  · rw [e 100 (by decide) (by omega)]; exact h4
  · rw [hsW_S (w := sSet (wsd W s) nx σ) rfl]; exact (h5 p hp).fr f (fun q a b => e q (Or.inr (by omega)) (by have : p < wnp W := hp; omega))
  · show XSid T J R' A a0 s' (upN (wsd W) s _ s')
    by_cases hss : s' = s
    · subst hss
      rw [upN_s]; exact (h6 s' hs).up f (fun q a b => e q (Or.inr (by omega)) (by omega)) hσ
    · rw [upN_o hss]; exact (h6 s' hs').fr f (fun q a b => e q (Or.inr (by omega)) (by omega))
/-- the rows change -/
theorem XR.rows {a0 : Nat} {sa : Nat → Nat} {W : wW} {T : Nat → Option hKd} {I J : Nat → Nat → Int32} {R R' : Nat → Nat → Option Nat} {A : Nat → Nat} {t l g : wR} (h : XR a0 sa W T I R A) (e : ∀ q, q < 103 ∨ 155 < q → J q = I q) (f : fr121 R R') (c : ∃ p q r s, cv4 R' p q r s) (ht : XRow J 103 104 t) (hl : XRow J 105 106 l) (hg : XRow J 107 108 g) : XR a0 sa (setR W t l g) T J R' A := by
  obtain ⟨h1, ⟨h2, h3, h4⟩, h5, h6, _⟩ := h
  refine ⟨h1.r121 f c, ⟨h2.ext (fun q a b => e q (Or.inl (by omega))), ?_, ?_⟩, fun p hp => ?_, fun s' hs' => ?_, ht, hl, hg⟩
  · rw [e 100 (by decide)]; exact h3
  · rw [e 100 (by decide)]; exact h4
  · exact (h5 p hp).fr f (fun q a b => e q (Or.inr (by omega)))
  · exact (h6 s' hs').fr f (fun q a b => e q (Or.inr (by omega)))
/-- a pattern changes -/
theorem XR.pat {a0 p : Nat} {sa : Nat → Nat} {W : wW} {T : Nat → Option hKd} {I J : Nat → Nat → Int32} {R : Nat → Nat → Option Nat} {A : Nat → Nat} {w : wP} (h : XR a0 sa W T I R A) (hp : p < wnp W) (hn8 : wnp W ≤ 8) (e : ∀ q, ¬ (200 + 10 * p ≤ q ∧ q < 200 + 10 * p + 10) → J q = I q) (hI : ptI J (200 + 10 * p) (pKn w) (pMs w) (pSz w) (pTk w) (hsW W p)) : XR a0 sa (setP W p w) T J R A := by
  obtain ⟨h1, ⟨h2, h3, h4⟩, h5, h6, h7, h8, h9⟩ := h
  have hr : ∀ q c r, XRow I q c r → q < 200 → c < 200 → XRow J q c r := fun q c r h a b => ⟨by rw [e q (by omega)]; exact h.1, fun j hj => by rw [e c (by omega)]; exact h.2 j hj⟩
  refine ⟨h1, ⟨h2.ext (fun q a b => e q (by omega)), ?_, ?_⟩, fun p' hp' => ?_, fun s' hs' => ?_, hr _ _ _ h7 (by decide) (by decide), hr _ _ _ h8 (by decide) (by decide), hr _ _ _ h9 (by decide) (by decide)⟩
  · rw [e 100 (by omega)]; exact h3
  · rw [e 100 (by omega)]; exact h4
  · show XPat T J R A a0 p' (upN (wpt W) p w p') (hsW W p')
    by_cases hpp : p' = p
    · subst hpp
      rw [upN_s]; exact ⟨(h5 p' hp').1, (h5 p' hp').2.1, hI⟩
    · rw [upN_o hpp]; exact (h5 p' hp').fr fr121.rf (fun q a b => e q (by omega))
  · exact (h6 s' hs').fr fr121.rf (fun q a b => e q (by have : p < wnp W := hp; omega))
/-- what it shows lies at 90 and above -/
theorem XR.kept {a0 : Nat} {sa : Nat → Nat} {W : wW} {T : Nat → Option hKd} {I J : Nat → Nat → Int32} {R : Nat → Nat → Option Nat} {A : Nat → Nat} (h : XR a0 sa W T I R A) (e : ∀ q, 64 ≤ q → J q = I q) : XR a0 sa W T J R A := by
  obtain ⟨h1, ⟨h2, h3, h4⟩, h5, h6, h7, h8, h9⟩ := h
  have hr : ∀ q c r, XRow I q c r → 64 ≤ q → 64 ≤ c → XRow J q c r := fun q c r h a b => ⟨by rw [e q a]; exact h.1, fun j hj => by rw [e c b]; exact h.2 j hj⟩
  refine ⟨h1, ⟨h2.ext (fun q a b => e q (by omega)), by rw [e 100 (by decide)]; exact h3, by rw [e 100 (by decide)]; exact h4⟩, fun p' hp' => (h5 p' hp').fr fr121.rf (fun q a b => e q (by omega)), fun s' hs' => (h6 s' hs').fr fr121.rf (fun q a b => e q (by omega)), hr _ _ _ h7 (by decide) (by decide), hr _ _ _ h8 (by decide) (by decide), hr _ _ _ h9 (by decide) (by decide)⟩
/-! the model -/
theorem mK_lt {k : Nat} {t : FieldType × Nat} (h : mK k = some t) : k < 63 := by
  rcases Nat.lt_or_ge k 63 with h1 | h1
  · exact h1
  · exfalso
    have : mK k = none := by
      unfold mK
      rw [List.getD_eq_getElem?_getD, List.getElem?_eq_none (Nat.le_trans (by decide) h1)]
      rfl
    rw [this] at h
    cases h
theorem isM.kept {T T' : Nat → Option hKd} {R R' : Nat → Nat → Option Nat} {A A' : Nat → Nat} {a0 : Nat} (h : isM T R A a0) (k : ∀ q, q < 64 → T' q = T q ∧ R' q = R q ∧ A' q = A q) : isM T' R' A' a0 := by
  refine ⟨by rw [(k 63 (by decide)).1]; exact h.1, by rw [(k 63 (by decide)).2.2]; exact h.2.1, fun q t e => ?_⟩
  have hq := mK_lt e
  obtain ⟨h1, h2, h3⟩ := h.2.2 q t e
  rw [(k 63 (by decide)).2.1, (k q (by omega)).1, (k q (by omega)).2.2]
  exact ⟨h1, h2, h3⟩
def MSid (I : Nat → Nat → Int32) (s : Nat) (w : wS) (ms : Nat) : Prop := (I 34 s = nI (sPa w) ∧ I 35 s = nI (sHa w) ∧ I 37 s = sOv w ∧ I 38 s = sSd w) ∧ mR I 51 s (secV (sSv w)) ∧ mdE (sSg w) I s (decide (ms ≤ sNx w))
def MR (a0 : Nat) (W : wW) (T : Nat → Option hKd) (I : Nat → Nat → Int32) (R : Nat → Nat → Option Nat) (A : Nat → Nat) : Prop := (isM T R A a0 ∧ shC I ∧ h13Z I) ∧ (I 63 24 = nI (wnp W) ∧ I 63 33 = nI (wns W) ∧ I 63 56 = nI (wtp W).1 ∧ I 63 58 = nI (wlt W).1 ∧ I 63 60 = nI (wgt W).1) ∧ (∀ p, p < wnp W → mdP I p (pKn (wpt W p)) (pMs (wpt W p)) (pSz (wpt W p)) (pTk (wpt W p))) ∧ (∀ s, s < wns W → MSid I s (wsd W s) (pMs (sPt W s))) ∧ (∀ s, wns W ≤ s → s < 4 → mdE sg0 I s false ∧ mR I 51 s (fun _ => nI 0)) ∧ (∀ j, j < (wtp W).1 → I 55 j = (wtp W).2 j) ∧ (∀ j, j < (wlt W).1 → I 57 j = (wlt W).2 j) ∧ ∀ j, j < (wgt W).1 → I 59 j = (wgt W).2 j
theorem mdP.o {I J : Nat → Nat → Int32} {p ms : Nat} {kn : Nat → Bool} {sz : Nat → Nat} {tk : Nat → Nat → Nat} (h : mdP I p kn ms sz tk) (e : ∀ q, 25 ≤ q → q ≤ 28 → J q = I q) : mdP J p kn ms sz tk := by
  unfold mdP
  rw [e 25 (by decide) (by decide), e 26 (by decide) (by decide), e 27 (by decide) (by decide), e 28 (by decide) (by decide)]; exact h
theorem MR.kept {a0 : Nat} {W : wW} {T T' : Nat → Option hKd} {I J : Nat → Nat → Int32} {R R' : Nat → Nat → Option Nat} {A A' : Nat → Nat} (h : MR a0 W T I R A) (e : ∀ q, q < 64 → T' q = T q ∧ R' q = R q ∧ A' q = A q ∧ J q = I q) : MR a0 W T' J R' A' := by
  obtain ⟨⟨h1, h2, h3⟩, h4, h5, h6, h7, h8, h9, h10⟩ := h
  have ei : ∀ q, q < 64 → J q = I q := fun q hq => (e q hq).2.2.2
  refine ⟨⟨isM.kept h1 (fun q hq => ⟨(e q hq).1, (e q hq).2.1, (e q hq).2.2.1⟩), by unfold shC; rw [ei 4 (by decide), ei 5 (by decide)]; exact h2, h13Z.o (ei 13 (by decide)) h3⟩, by rw [ei 63 (by decide)]; exact h4, fun p hp => (h5 p hp).o (fun q a b => ei q (by omega)), fun s hs => ?_, fun s a b => ?_, by rw [ei 55 (by decide)]; exact h8, by rw [ei 57 (by decide)]; exact h9, by rw [ei 59 (by decide)]; exact h10⟩
  · have k := h6 s hs
    exact ⟨by rw [ei 34 (by decide), ei 35 (by decide), ei 37 (by decide), ei 38 (by decide)]; exact k.1, k.2.1.o (ei 51 (by decide)), k.2.2.sm (fun q a b => ei q (by omega))⟩
  · have k := h7 s a b
    exact ⟨k.1.sm (fun q a b => ei q (by omega)), k.2.o (ei 51 (by decide))⟩
/-- the rows and scratch change -/
theorem MR.rows {a0 : Nat} {W : wW} {T : Nat → Option hKd} {I J : Nat → Nat → Int32} {R : Nat → Nat → Option Nat} {A : Nat → Nat} {t l g : wR} (h : MR a0 W T I R A) (e : ∀ q, q ∉ [0, 2, 3, 12, 13, 29, 30, 31, 32, 55, 57, 59, 61, 63] → J q = I q) (e13 : h13Z I → h13Z J) (e24 : J 63 24 = I 63 24) (e33 : J 63 33 = I 63 33) (c : J 63 56 = nI t.1 ∧ J 63 58 = nI l.1 ∧ J 63 60 = nI g.1) (ht : ∀ j, j < t.1 → J 55 j = t.2 j) (hl : ∀ j, j < l.1 → J 57 j = l.2 j) (hg : ∀ j, j < g.1 → J 59 j = g.2 j) : MR a0 (setR W t l g) T J R A := by
  obtain ⟨⟨h1, h2, h3⟩, h4, h5, h6, h7, _⟩ := h
  refine ⟨⟨h1, by unfold shC; rw [e 4 (by decide), e 5 (by decide)]; exact h2, e13 h3⟩, ⟨e24.trans h4.1, e33.trans h4.2.1, c⟩, fun p hp => (h5 p hp).o (fun q a b => e q (by simp; omega)), fun s hs => ?_, fun s a b => ?_, ht, hl, hg⟩
  · have k := h6 s hs
    exact ⟨by rw [e 34 (by decide), e 35 (by decide), e 37 (by decide), e 38 (by decide)]; exact k.1, k.2.1.o (e 51 (by decide)), k.2.2.sm (fun q a b => e q (by simp; omega))⟩
  · have k := h7 s a b
    exact ⟨k.1.sm (fun q a b => e q (by simp; omega)), k.2.o (e 51 (by decide))⟩
/-- a side's state and the rows change -/
theorem MR.side {a0 s n nx : Nat} {W : wW} {T : Nat → Option hKd} {I J K : Nat → Nat → Int32} {R : Nat → Nat → Option Nat} {A : Nat → Nat} {σ : sgT} {t l g : wR} (h : MR a0 W T I R A) (hs : s < wns W) (hn4 : wns W ≤ 4) (hn : 4 ≤ n) (F : mF n s I K) (e : ∀ q, q ∉ [55, 57, 59, 63] → J q = K q) (e24 : J 63 24 = I 63 24) (e33 : J 63 33 = I 63 33) (hE : mdE σ J s (decide (pMs (sPt W s) ≤ nx))) (c : J 63 56 = nI t.1 ∧ J 63 58 = nI l.1 ∧ J 63 60 = nI g.1) (ht : ∀ j, j < t.1 → J 55 j = t.2 j) (hl : ∀ j, j < l.1 → J 57 j = l.2 j) (hg : ∀ j, j < g.1 → J 59 j = g.2 j) : MR a0 (setS W s (sSet (wsd W s) nx σ) t l g) T J R A := by
  obtain ⟨⟨h1, h2, h3⟩, h4, h5, h6, h7, _⟩ := h
  have o : ∀ q, q ∉ mML → q ∉ [55, 57, 59, 63] → J q = I q := fun q a b => (e q b).trans (F.1 q a (fun h => b (by rw [h]; decide)))
  have sm : ∀ (τ : sgT) (s' : Nat) (dn : Bool), mdE τ K s' dn → mdE τ J s' dn := fun τ s' dn hk => hk.sm (fun q a b => e q (by simp; omega))
  refine ⟨⟨h1, by unfold shC; rw [o 4 (by decide) (by decide), o 5 (by decide) (by decide)]; exact h2, h13Z.o (e 13 (by decide)) (F.2.2.1 h3)⟩, ⟨e24.trans h4.1, e33.trans h4.2.1, c⟩, fun p hp => (h5 p hp).o (fun q a b => o q (by simp [mML]; omega) (by simp; omega)), fun s' hs' => ?_, fun s' a b => ?_, ht, hl, hg⟩
  · have hs' : s' < wns W := hs'
    have k := h6 s' hs'
    show MSid J s' (upN (wsd W) s _ s') (pMs (wpt W (sPa (upN (wsd W) s _ s'))))
    by_cases hss : s' = s
    · subst hss
      rw [upN_s]
      exact ⟨by rw [o 34 (by decide) (by decide), o 35 (by decide) (by decide), o 37 (by decide) (by decide), o 38 (by decide) (by decide)]; exact k.1, k.2.1.o (o 51 (by decide) (by decide)), hE⟩
    · rw [upN_o hss]
      exact ⟨by rw [o 34 (by decide) (by decide), o 35 (by decide) (by decide), o 37 (by decide) (by decide), o 38 (by decide) (by decide)]; exact k.1, k.2.1.o (o 51 (by decide) (by decide)), sm _ _ _ (k.2.2.ot F (by omega) hss)⟩
  · have a : wns W ≤ s' := a
    have k := h7 s' a b
    exact ⟨sm _ _ _ (k.1.ot F (by omega) (by omega)), k.2.o (o 51 (by decide) (by decide))⟩
/-- a pattern changes -/
theorem MR.pat {a0 p : Nat} {W : wW} {T : Nat → Option hKd} {I J : Nat → Nat → Int32} {R : Nat → Nat → Option Nat} {A : Nat → Nat} {w : wP} (h : MR a0 W T I R A) (hp : hsW W p = false) (e : ∀ q, q ∉ [25, 26, 27, 28] → J q = I q) (ho : ∀ p', p' < wnp W → p' ≠ p → mdP J p' (pKn (wpt W p')) (pMs (wpt W p')) (pSz (wpt W p')) (pTk (wpt W p'))) (hI : mdP J p (pKn w) (pMs w) (pSz w) (pTk w)) : MR a0 (setP W p w) T J R A := by
  obtain ⟨⟨h1, h2, h3⟩, h4, h5, h6, h7, h8, h9, h10⟩ := h
  refine ⟨⟨h1, by unfold shC; rw [e 4 (by decide), e 5 (by decide)]; exact h2, h13Z.o (e 13 (by decide)) h3⟩, by rw [e 63 (by decide)]; exact h4, fun p' hp' => ?_, fun s hs => ?_, fun s a b => ?_, by rw [e 55 (by decide)]; exact h8, by rw [e 57 (by decide)]; exact h9, by rw [e 59 (by decide)]; exact h10⟩
  · show mdP J p' (pKn (upN (wpt W) p w p')) (pMs (upN (wpt W) p w p')) (pSz (upN (wpt W) p w p')) (pTk (upN (wpt W) p w p'))
    by_cases hpp : p' = p
    · subst hpp; rw [upN_s]; exact hI
    · rw [upN_o hpp]; exact ho p' hp' hpp
  · have k := h6 s hs
    have hne : sPa (wsd W s) ≠ p := fun e => by rw [(hsW_iff (W := W)).mpr ⟨s, hs, e⟩] at hp; cases hp
    show MSid J s (wsd W s) (pMs (upN (wpt W) p w (sPa (wsd W s))))
    rw [upN_o hne]
    exact ⟨by rw [e 34 (by decide), e 35 (by decide), e 37 (by decide), e 38 (by decide)]; exact k.1, k.2.1.o (e 51 (by decide)), k.2.2.sm (fun q a b => e q (by simp; omega))⟩
  · have k := h7 s a b
    exact ⟨k.1.sm (fun q a b => e q (by simp; omega)), k.2.o (e 51 (by decide))⟩
/-! what is so of every world -/
def PPat (w : wP) : Prop := pMs w ≤ 6 ∧ (∀ m, pSz w m ≤ 5) ∧ (∀ m k, pTk w m k ≤ 5) ∧ ∀ m, pMs w ≤ m → pSz w m = 0
def PSid (P : wP) (w : wS) : Prop := (sHa w < 2 ∧ bS (sSg w) ∧ sSg w 7 13 = nI (sNx w) ∧ sNx w ≤ pMs P) ∧ (isF (pKn P) (pMs P) (pSz P) (pTk P) 0 ∧ (sSv w = -1 → ¬ (pKn P (sHa w) = true ∨ sndS (pMs P) (pSz P) (pTk P) (sHa w))) ∧ (sOv w = -1 → ¬ pKn P (1 - sHa w) = true)) ∧ (pMs P ≤ sNx w → hkS (sSg w) = true) ∧ ((sOv w ≠ -1 ∨ ∃ n i, n < sNx w ∧ n % 2 = 1 - sHa w ∧ i < pSz P n ∧ pTk P n i = 1) → sSg w 7 9 = nI 1)
def PI (W : wW) : Prop := (wnp W ≤ 8 ∧ wns W ≤ 4) ∧ ((wtp W).1 ≤ 64 ∧ ∀ j, j < (wtp W).1 → byt ((wtp W).2 j) < 256) ∧ ((wlt W).1 ≤ 160 ∧ ∀ j, j < (wlt W).1 → byt ((wlt W).2 j) < 256) ∧ (wgt W).1 ≤ 160 ∧ (∀ p, p < wnp W → PPat (wpt W p)) ∧ ∀ s, s < wns W → sPa (wsd W s) < wnp W ∧ PSid (sPt W s) (wsd W s)
theorem PI.rows {W : wW} {t l g : wR} (h : PI W) (ht : t.1 ≤ 64 ∧ ∀ j, j < t.1 → byt (t.2 j) < 256) (hl : l.1 ≤ 160 ∧ ∀ j, j < l.1 → byt (l.2 j) < 256) (hg : g.1 ≤ 160) : PI (setR W t l g) := ⟨h.1, ht, hl, hg, h.2.2.2.2⟩
theorem PI.side {W : wW} {s nx : Nat} {σ : sgT} {t l g : wR} (h : PI W) (ht : t.1 ≤ 64 ∧ ∀ j, j < t.1 → byt (t.2 j) < 256) (hl : l.1 ≤ 160 ∧ ∀ j, j < l.1 → byt (l.2 j) < 256) (hg : g.1 ≤ 160) (hb : bS σ) (h13 : σ 7 13 = nI nx) (hn : nx ≤ pMs (sPt W s)) (hk : pMs (sPt W s) ≤ nx → hkS σ = true) (h9 : (sOv (wsd W s) ≠ -1 ∨ ∃ n i, n < nx ∧ n % 2 = 1 - sHa (wsd W s) ∧ i < pSz (sPt W s) n ∧ pTk (sPt W s) n i = 1) → σ 7 9 = nI 1) : PI (setS W s (sSet (wsd W s) nx σ) t l g) := by
  refine ⟨h.1, ht, hl, hg, h.2.2.2.2.1, fun s' hs' => ?_⟩
  have k := h.2.2.2.2.2 s' hs'
  show sPa (upN (wsd W) s _ s') < wnp W ∧ PSid (wpt W (sPa (upN (wsd W) s _ s'))) (upN (wsd W) s _ s')
  by_cases hss : s' = s
  · subst hss
    rw [upN_s]
    exact ⟨k.1, ⟨k.2.1.1, hb, h13, hn⟩, k.2.2.1, hk, h9⟩
  · rw [upN_o hss]; exact k
theorem PI.pat {W : wW} {p : Nat} {w : wP} (h : PI W) (hp : hsW W p = false) (hw : PPat w) : PI (setP W p w) := by
  refine ⟨h.1, h.2.1, h.2.2.1, h.2.2.2.1, fun p' hp' => ?_, fun s hs => ?_⟩
  · show PPat (upN (wpt W) p w p')
    by_cases hpp : p' = p
    · subst hpp; rw [upN_s]; exact hw
    · rw [upN_o hpp]; exact h.2.2.2.2.1 p' hp'
  · have k := h.2.2.2.2.2 s hs
    have hne : sPa (wsd W s) ≠ p := fun e => by rw [(hsW_iff (W := W)).mpr ⟨s, hs, e⟩] at hp; cases hp
    refine ⟨k.1, ?_⟩
    show PSid (upN (wpt W) p w (sPa (wsd W s))) (wsd W s)
    rw [upN_o hne]; exact k.2
/-! numbers of calls -/
def ixI (v : Int32) : Nat := v.toInt.toNat
theorem ixI_n {k : Nat} (h : k < 2 ^ 31) : ixI (nI k) = k := by unfold ixI; rw [nI_tI h]; rfl
theorem ix_ok {v : Int32} {n : Nat} (hn : n < 2 ^ 31) (h : ¬ (v < 0 ∨ nI n ≤ v)) : ixI v < n ∧ v = nI (ixI v) := by
  obtain ⟨k, h1, h2⟩ := nI_ofx (x := v) (n := n) (fun e => h (Or.inl e)) (Int32.not_le.mp (fun e => h (Or.inr e))) hn
  rw [h2, ixI_n (by omega)]; exact ⟨h1, rfl⟩
theorem ix_le {v : Int32} {n : Nat} (hn : n < 2 ^ 31 - 1) (h : ¬ (v < 0 ∨ nI n < v)) : ixI v ≤ n ∧ v = nI (ixI v) := by
  have h2 : ¬ (v < 0 ∨ nI (n + 1) ≤ v) := by
    rintro (e | e)
    · exact h (Or.inl e)
    · refine h (Or.inr ?_)
      have a := nI_tI (k := n) (by omega)
      have b := nI_tI (k := n + 1) (by omega)
      rw [Int32.lt_iff_toInt_lt]
      rw [Int32.le_iff_toInt_le] at e
      omega
  have k := ix_ok (by omega) h2
  exact ⟨by omega, k.2⟩
