/-! ===== the model's sides show the pure ones ===== -/
def mR (I : Nat → Nat → Int32) (c s : Nat) (f : Nat → Int32) : Prop := ∀ j, j < 32 → I c (32 * s + j) = f j
def mdE (σ : sgT) (I : Nat → Nat → Int32) (s : Nat) (dn : Bool) : Prop := mR I 47 s (σ 0) ∧ mR I 48 s (σ 1) ∧ mR I 49 s (σ 2) ∧ mR I 50 s (σ 3) ∧ mR I 52 s (σ 4) ∧ mR I 54 s (σ 5) ∧ (σ 7 9 = nI 1 → mR I 53 s (σ 6)) ∧ (I 42 s = σ 7 7 ∧ I 45 s = σ 7 8 ∧ I 46 s = σ 7 9 ∧ I 43 s = σ 7 10 ∧ I 39 s = σ 7 12 ∧ I 40 s = σ 7 13) ∧ (dn = true → I 44 s = σ 7 11) ∧ I 41 s = bI dn
def sdO (n s : Nat) (I J : Nat → Nat → Int32) (q : Nat) : Prop := (q < 47 → ∀ t, t < n → t ≠ s → J q t = I q t) ∧ (46 < q → ∀ i, i < 32 * n → ¬ (32 * s ≤ i ∧ i < 32 * s + 32) → J q i = I q i)
def h13Z (I : Nat → Nat → Int32) : Prop := ∀ j, 0 < j → j < 32 → I 13 j = 0
def mML : List Nat := [0, 2, 3, 6, 7, 8, 9, 12, 13, 14, 15, 16, 17, 18, 19, 20, 21, 22, 23, 39, 40, 41, 42, 43, 44, 45, 46, 47, 48, 49, 50, 52, 53, 54, 57, 61, 62]
def mF (n s : Nat) (I J : Nat → Nat → Int32) : Prop := (∀ q, q ∉ mML → q ≠ 63 → J q = I q) ∧ (∀ j, j ≠ 1 → J 63 j = I 63 j) ∧ (h13Z I → h13Z J) ∧ ∀ q, 39 ≤ q → q ≤ 54 → q ≠ 51 → sdO n s I J q
theorem mR.o {I J : Nat → Nat → Int32} {c s : Nat} {f : Nat → Int32} (h : mR I c s f) (e : J c = I c) : mR J c s f := fun j hj => by rw [e]; exact h j hj
theorem sdO.rf {n s : Nat} {I J : Nat → Nat → Int32} {q : Nat} (e : J q = I q) : sdO n s I J q := ⟨fun _ t _ _ => by rw [e], fun _ i _ _ => by rw [e]⟩
theorem sdO.tr {n s : Nat} {I J K : Nat → Nat → Int32} {q : Nat} (h : sdO n s I J q) (k : sdO n s J K q) : sdO n s I K q := ⟨fun a t b c => (k.1 a t b c).trans (h.1 a t b c), fun a t b c => (k.2 a t b c).trans (h.2 a t b c)⟩
theorem sdO.row {n s : Nat} {I J : Nat → Nat → Int32} {q : Nat} {f : Nat → Int32} (w : wRow I J q s f) (hq : 46 < q) : sdO n s I J q := ⟨fun a => absurd a (by omega), fun _ i _ h => w.2 i h⟩
theorem sdO.fld {n s : Nat} {I J : Nat → Nat → Int32} {q : Nat} {v : Int32} (e : J q = upd (I q) s v) (hq : q < 47) : sdO n s I J q := ⟨fun _ t _ h => by rw [e]; unfold upd; rw [if_neg h], fun a => absurd a (by omega)⟩
theorem mF.rf {n s : Nat} {I : Nat → Nat → Int32} : mF n s I I := ⟨fun _ _ _ => rfl, fun _ _ => rfl, fun h => h, fun _ _ _ _ => sdO.rf rfl⟩
theorem mF.tr {n s : Nat} {I J K : Nat → Nat → Int32} (h : mF n s I J) (k : mF n s J K) : mF n s I K := ⟨fun q a b => (k.1 q a b).trans (h.1 q a b), fun j a => (k.2.1 j a).trans (h.2.1 j a), fun a => k.2.2.1 (h.2.2.1 a), fun q a b c => (h.2.2.2 q a b c).tr (k.2.2.2 q a b c)⟩
theorem mF.fm {n s : Nat} {I J : Nat → Nat → Int32} {S : List Nat} (F : fmS S I J) (hS : ∀ q, q ∈ S → q ∈ mML) (h13 : h13Z I → h13Z J) (hq : ∀ q, q ∈ S → 39 ≤ q → q ≤ 54 → sdO n s I J q) : mF n s I J := by
  refine ⟨fun q a b => F.1 q (fun e => a (hS q e)) b, F.2, h13, fun q a b c => ?_⟩
  by_cases e : q ∈ S
  · exact hq q e a b
  · exact sdO.rf (F.1 q e (by omega))
theorem h13Z.o {I J : Nat → Nat → Int32} (e : J 13 = I 13) (h : h13Z I) : h13Z J := fun j a b => by rw [e]; exact h j a b
theorem mF.c {n s : Nat} {I J : Nat → Nat → Int32} (h : mF n s I J) (k : shC I) : shC J := by unfold shC; rw [h.1 4 (by decide) (by decide), h.1 5 (by decide) (by decide)]; exact k
theorem mF.o {n s : Nat} {I J : Nat → Nat → Int32} (h : mF n s I J) (q : Nat) (a : q ∉ mML) (b : q ≠ 63) : J q = I q := h.1 q a b
theorem mdE.ot {n s t : Nat} {σ : sgT} {I J : Nat → Nat → Int32} {dn : Bool} (h : mdE σ I t dn) (f : mF n s I J) (ht : t < n) (hts : t ≠ s) : mdE σ J t dn := by
  have r : ∀ q, 47 ≤ q → q ≤ 54 → q ≠ 51 → ∀ g, mR I q t g → mR J q t g := fun q a b c g m j hj => by rw [(f.2.2.2 q (by omega) b c).2 (by omega) (32 * t + j) (by omega) (by omega)]; exact m j hj
  have g : ∀ q, 39 ≤ q → q ≤ 46 → J q t = I q t := fun q a b => (f.2.2.2 q a (by omega) (by omega)).1 (by omega) t ht hts
  obtain ⟨h1, h2, h3, h4, h5, h6, h7, ⟨g1, g2, g3, g4, g5, g6⟩, h9, h10⟩ := h
  exact ⟨r _ (by decide) (by decide) (by decide) _ h1, r _ (by decide) (by decide) (by decide) _ h2, r _ (by decide) (by decide) (by decide) _ h3, r _ (by decide) (by decide) (by decide) _ h4, r _ (by decide) (by decide) (by decide) _ h5, r _ (by decide) (by decide) (by decide) _ h6, fun e => r _ (by decide) (by decide) (by decide) _ (h7 e), ⟨by rw [g 42 (by decide) (by decide)]; exact g1, by rw [g 45 (by decide) (by decide)]; exact g2, by rw [g 46 (by decide) (by decide)]; exact g3, by rw [g 43 (by decide) (by decide)]; exact g4, by rw [g 39 (by decide) (by decide)]; exact g5, by rw [g 40 (by decide) (by decide)]; exact g6⟩, fun e => by rw [g 44 (by decide) (by decide)]; exact h9 e, by rw [g 41 (by decide) (by decide)]; exact h10⟩
theorem mdE.sm {s : Nat} {σ : sgT} {I J : Nat → Nat → Int32} {dn : Bool} (h : mdE σ I s dn) (o : ∀ q, 39 ≤ q → q ≤ 54 → J q = I q) : mdE σ J s dn := by
  obtain ⟨h1, h2, h3, h4, h5, h6, h7, ⟨g1, g2, g3, g4, g5, g6⟩, h9, h10⟩ := h
  exact ⟨h1.o (o _ (by decide) (by decide)), h2.o (o _ (by decide) (by decide)), h3.o (o _ (by decide) (by decide)), h4.o (o _ (by decide) (by decide)), h5.o (o _ (by decide) (by decide)), h6.o (o _ (by decide) (by decide)), fun e => (h7 e).o (o _ (by decide) (by decide)), ⟨by rw [o 42 (by decide) (by decide)]; exact g1, by rw [o 45 (by decide) (by decide)]; exact g2, by rw [o 46 (by decide) (by decide)]; exact g3, by rw [o 43 (by decide) (by decide)]; exact g4, by rw [o 39 (by decide) (by decide)]; exact g5, by rw [o 40 (by decide) (by decide)]; exact g6⟩, fun e => by rw [o 44 (by decide) (by decide)]; exact h9 e, by rw [o 41 (by decide) (by decide)]; exact h10⟩
theorem mdE.e {s : Nat} {σ : sgT} {I J : Nat → Nat → Int32} {dn : Bool} {sd : Int32} (h : mdE σ I s dn) (r48 : mR J 48 s ((opE sd σ) 1)) (r52 : mR J 52 s ((opE sd σ) 4)) (g39 : J 39 s = (opE sd σ) 7 12) (o : ∀ q, 39 ≤ q → q ≤ 54 → q ≠ 48 → q ≠ 52 → q ≠ 39 → J q = I q) : mdE (opE sd σ) J s dn := by
  obtain ⟨h1, h2, h3, h4, h5, h6, h7, ⟨q1, q2, q3, q4, q5, q6⟩, h9, h10⟩ := h
  exact ⟨h1.o (o 47 (by decide) (by decide) (by decide) (by decide) (by decide)), r48, h3.o (o 49 (by decide) (by decide) (by decide) (by decide) (by decide)), h4.o (o 50 (by decide) (by decide) (by decide) (by decide) (by decide)), r52, h6.o (o 54 (by decide) (by decide) (by decide) (by decide) (by decide)), fun e => (h7 e).o (o 53 (by decide) (by decide) (by decide) (by decide) (by decide)), ⟨by rw [o 42 (by decide) (by decide) (by decide) (by decide) (by decide)]; exact q1, by rw [o 45 (by decide) (by decide) (by decide) (by decide) (by decide)]; exact q2, by rw [o 46 (by decide) (by decide) (by decide) (by decide) (by decide)]; exact q3, by rw [o 43 (by decide) (by decide) (by decide) (by decide) (by decide)]; exact q4, g39, by rw [o 40 (by decide) (by decide) (by decide) (by decide) (by decide)]; exact q6⟩, fun e => by rw [o 44 (by decide) (by decide) (by decide) (by decide) (by decide)]; exact h9 e, by rw [o 41 (by decide) (by decide) (by decide) (by decide) (by decide)]; exact h10⟩
theorem mdE.s {s : Nat} {σ : sgT} {I J : Nat → Nat → Int32} {dn : Bool} {f : Nat → Int32} {m : Nat} (h : mdE σ I s dn) (r48 : mR J 48 s ((opS σ f m) 1)) (g43 : J 43 s = (opS σ f m) 7 10) (o : ∀ q, 39 ≤ q → q ≤ 54 → q ≠ 48 → q ≠ 43 → J q = I q) : mdE (opS σ f m) J s dn := by
  obtain ⟨h1, h2, h3, h4, h5, h6, h7, ⟨q1, q2, q3, q4, q5, q6⟩, h9, h10⟩ := h
  exact ⟨h1.o (o 47 (by decide) (by decide) (by decide) (by decide)), r48, h3.o (o 49 (by decide) (by decide) (by decide) (by decide)), h4.o (o 50 (by decide) (by decide) (by decide) (by decide)), h5.o (o 52 (by decide) (by decide) (by decide) (by decide)), h6.o (o 54 (by decide) (by decide) (by decide) (by decide)), fun e => (h7 e).o (o 53 (by decide) (by decide) (by decide) (by decide)), ⟨by rw [o 42 (by decide) (by decide) (by decide) (by decide)]; exact q1, by rw [o 45 (by decide) (by decide) (by decide) (by decide)]; exact q2, by rw [o 46 (by decide) (by decide) (by decide) (by decide)]; exact q3, g43, by rw [o 39 (by decide) (by decide) (by decide) (by decide)]; exact q5, by rw [o 40 (by decide) (by decide) (by decide) (by decide)]; exact q6⟩, fun e => by rw [o 44 (by decide) (by decide) (by decide) (by decide)]; exact h9 e, by rw [o 41 (by decide) (by decide) (by decide) (by decide)]; exact h10⟩
theorem mdE.d {s : Nat} {σ : sgT} {I J : Nat → Nat → Int32} {dn : Bool} {sec : Nat → Int32} {ha t : Nat} (h : mdE σ I s dn) (r47 : mR J 47 s ((opD sec ha t σ) 0)) (r49 : mR J 49 s ((opD sec ha t σ) 2)) (g42 : J 42 s = (opD sec ha t σ) 7 7) (g43 : J 43 s = (opD sec ha t σ) 7 10) (o : ∀ q, 39 ≤ q → q ≤ 54 → q ≠ 47 → q ≠ 49 → q ≠ 42 → q ≠ 43 → J q = I q) : mdE (opD sec ha t σ) J s dn := by
  obtain ⟨h1, h2, h3, h4, h5, h6, h7, ⟨q1, q2, q3, q4, q5, q6⟩, h9, h10⟩ := h
  exact ⟨r47, h2.o (o 48 (by decide) (by decide) (by decide) (by decide) (by decide) (by decide)), r49, h4.o (o 50 (by decide) (by decide) (by decide) (by decide) (by decide) (by decide)), h5.o (o 52 (by decide) (by decide) (by decide) (by decide) (by decide) (by decide)), h6.o (o 54 (by decide) (by decide) (by decide) (by decide) (by decide) (by decide)), fun e => (h7 e).o (o 53 (by decide) (by decide) (by decide) (by decide) (by decide) (by decide)), ⟨g42, by rw [o 45 (by decide) (by decide) (by decide) (by decide) (by decide) (by decide)]; exact q2, by rw [o 46 (by decide) (by decide) (by decide) (by decide) (by decide) (by decide)]; exact q3, g43, by rw [o 39 (by decide) (by decide) (by decide) (by decide) (by decide) (by decide)]; exact q5, by rw [o 40 (by decide) (by decide) (by decide) (by decide) (by decide) (by decide)]; exact q6⟩, fun e => by rw [o 44 (by decide) (by decide) (by decide) (by decide) (by decide) (by decide)]; exact h9 e, by rw [o 41 (by decide) (by decide) (by decide) (by decide) (by decide) (by decide)]; exact h10⟩
theorem mdE.x {s : Nat} {σ : sgT} {I J : Nat → Nat → Int32} {dn : Bool} {g : Nat → Int32} (h : mdE σ I s dn) (r48 : mR J 48 s ((opX σ g) 1)) (r54 : mR J 54 s ((opX σ g) 5)) (g45 : J 45 s = (opX σ g) 7 8) (o : ∀ q, 39 ≤ q → q ≤ 54 → q ≠ 48 → q ≠ 54 → q ≠ 45 → J q = I q) : mdE (opX σ g) J s dn := by
  obtain ⟨h1, h2, h3, h4, h5, h6, h7, ⟨q1, q2, q3, q4, q5, q6⟩, h9, h10⟩ := h
  exact ⟨h1.o (o 47 (by decide) (by decide) (by decide) (by decide) (by decide)), r48, h3.o (o 49 (by decide) (by decide) (by decide) (by decide) (by decide)), h4.o (o 50 (by decide) (by decide) (by decide) (by decide) (by decide)), h5.o (o 52 (by decide) (by decide) (by decide) (by decide) (by decide)), r54, fun e => (h7 e).o (o 53 (by decide) (by decide) (by decide) (by decide) (by decide)), ⟨by rw [o 42 (by decide) (by decide) (by decide) (by decide) (by decide)]; exact q1, g45, by rw [o 46 (by decide) (by decide) (by decide) (by decide) (by decide)]; exact q3, by rw [o 43 (by decide) (by decide) (by decide) (by decide) (by decide)]; exact q4, by rw [o 39 (by decide) (by decide) (by decide) (by decide) (by decide)]; exact q5, by rw [o 40 (by decide) (by decide) (by decide) (by decide) (by decide)]; exact q6⟩, fun e => by rw [o 44 (by decide) (by decide) (by decide) (by decide) (by decide)]; exact h9 e, by rw [o 41 (by decide) (by decide) (by decide) (by decide) (by decide)]; exact h10⟩
theorem mdE.r {s : Nat} {σ : sgT} {I J : Nat → Nat → Int32} {dn : Bool} {g : Nat → Int32} {n : Nat} (h : mdE σ I s dn) (r48 : mR J 48 s ((opR σ g n) 1)) (g43 : J 43 s = (opR σ g n) 7 10) (o : ∀ q, 39 ≤ q → q ≤ 54 → q ≠ 48 → q ≠ 43 → J q = I q) : mdE (opR σ g n) J s dn := by
  obtain ⟨h1, h2, h3, h4, h5, h6, h7, ⟨q1, q2, q3, q4, q5, q6⟩, h9, h10⟩ := h
  exact ⟨h1.o (o 47 (by decide) (by decide) (by decide) (by decide)), r48, h3.o (o 49 (by decide) (by decide) (by decide) (by decide)), h4.o (o 50 (by decide) (by decide) (by decide) (by decide)), h5.o (o 52 (by decide) (by decide) (by decide) (by decide)), h6.o (o 54 (by decide) (by decide) (by decide) (by decide)), fun e => (h7 e).o (o 53 (by decide) (by decide) (by decide) (by decide)), ⟨by rw [o 42 (by decide) (by decide) (by decide) (by decide)]; exact q1, by rw [o 45 (by decide) (by decide) (by decide) (by decide)]; exact q2, by rw [o 46 (by decide) (by decide) (by decide) (by decide)]; exact q3, g43, by rw [o 39 (by decide) (by decide) (by decide) (by decide)]; exact q5, by rw [o 40 (by decide) (by decide) (by decide) (by decide)]; exact q6⟩, fun e => by rw [o 44 (by decide) (by decide) (by decide) (by decide)]; exact h9 e, by rw [o 41 (by decide) (by decide) (by decide) (by decide)]; exact h10⟩
theorem mdE.v {s : Nat} {σ : sgT} {I J : Nat → Nat → Int32} {dn : Bool} {g : Nat → Int32} {n : Nat} (h : mdE σ I s dn) (r48 : mR J 48 s ((opV σ g n) 1)) (g46 : J 46 s = (opV σ g n) 7 9) (g43 : J 43 s = (opV σ g n) 7 10) (r53 : (opV σ g n) 7 9 = nI 1 → mR J 53 s ((opV σ g n) 6)) (o : ∀ q, 39 ≤ q → q ≤ 54 → q ≠ 48 → q ≠ 43 → q ≠ 46 → q ≠ 53 → J q = I q) : mdE (opV σ g n) J s dn := by
  obtain ⟨h1, h2, h3, h4, h5, h6, h7, ⟨q1, q2, q3, q4, q5, q6⟩, h9, h10⟩ := h
  exact ⟨h1.o (o 47 (by decide) (by decide) (by decide) (by decide) (by decide) (by decide)), r48, h3.o (o 49 (by decide) (by decide) (by decide) (by decide) (by decide) (by decide)), h4.o (o 50 (by decide) (by decide) (by decide) (by decide) (by decide) (by decide)), h5.o (o 52 (by decide) (by decide) (by decide) (by decide) (by decide) (by decide)), h6.o (o 54 (by decide) (by decide) (by decide) (by decide) (by decide) (by decide)), r53, ⟨by rw [o 42 (by decide) (by decide) (by decide) (by decide) (by decide) (by decide)]; exact q1, by rw [o 45 (by decide) (by decide) (by decide) (by decide) (by decide) (by decide)]; exact q2, g46, g43, by rw [o 39 (by decide) (by decide) (by decide) (by decide) (by decide) (by decide)]; exact q5, by rw [o 40 (by decide) (by decide) (by decide) (by decide) (by decide) (by decide)]; exact q6⟩, fun e => by rw [o 44 (by decide) (by decide) (by decide) (by decide) (by decide) (by decide)]; exact h9 e, by rw [o 41 (by decide) (by decide) (by decide) (by decide) (by decide) (by decide)]; exact h10⟩
theorem mdE.n {s : Nat} {σ : sgT} {I J : Nat → Nat → Int32} {dn : Bool} {nx : Nat} (h : mdE σ I s dn)  (g40 : J 40 s = (sFl σ 13 (nI nx)) 7 13) (o : ∀ q, 39 ≤ q → q ≤ 54 → q ≠ 40 → J q = I q) : mdE (sFl σ 13 (nI nx)) J s dn := by
  obtain ⟨h1, h2, h3, h4, h5, h6, h7, ⟨q1, q2, q3, q4, q5, q6⟩, h9, h10⟩ := h
  exact ⟨h1.o (o 47 (by decide) (by decide) (by decide)), h2.o (o 48 (by decide) (by decide) (by decide)), h3.o (o 49 (by decide) (by decide) (by decide)), h4.o (o 50 (by decide) (by decide) (by decide)), h5.o (o 52 (by decide) (by decide) (by decide)), h6.o (o 54 (by decide) (by decide) (by decide)), fun e => (h7 e).o (o 53 (by decide) (by decide) (by decide)), ⟨by rw [o 42 (by decide) (by decide) (by decide)]; exact q1, by rw [o 45 (by decide) (by decide) (by decide)]; exact q2, by rw [o 46 (by decide) (by decide) (by decide)]; exact q3, by rw [o 43 (by decide) (by decide) (by decide)]; exact q4, by rw [o 39 (by decide) (by decide) (by decide)]; exact q5, g40⟩, fun e => by rw [o 44 (by decide) (by decide) (by decide)]; exact h9 e, by rw [o 41 (by decide) (by decide) (by decide)]; exact h10⟩
theorem mdE.n1 {s : Nat} {σ : sgT} {I J : Nat → Nat → Int32} {dn : Bool} {v : Int32} (h : mdE σ I s dn)  (g43 : J 43 s = (sFl σ 10 v) 7 10) (o : ∀ q, 39 ≤ q → q ≤ 54 → q ≠ 43 → J q = I q) : mdE (sFl σ 10 v) J s dn := by
  obtain ⟨h1, h2, h3, h4, h5, h6, h7, ⟨q1, q2, q3, q4, q5, q6⟩, h9, h10⟩ := h
  exact ⟨h1.o (o 47 (by decide) (by decide) (by decide)), h2.o (o 48 (by decide) (by decide) (by decide)), h3.o (o 49 (by decide) (by decide) (by decide)), h4.o (o 50 (by decide) (by decide) (by decide)), h5.o (o 52 (by decide) (by decide) (by decide)), h6.o (o 54 (by decide) (by decide) (by decide)), fun e => (h7 e).o (o 53 (by decide) (by decide) (by decide)), ⟨by rw [o 42 (by decide) (by decide) (by decide)]; exact q1, by rw [o 45 (by decide) (by decide) (by decide)]; exact q2, by rw [o 46 (by decide) (by decide) (by decide)]; exact q3, g43, by rw [o 39 (by decide) (by decide) (by decide)]; exact q5, by rw [o 40 (by decide) (by decide) (by decide)]; exact q6⟩, fun e => by rw [o 44 (by decide) (by decide) (by decide)]; exact h9 e, by rw [o 41 (by decide) (by decide) (by decide)]; exact h10⟩
theorem mdE.z {s : Nat} {σ : sgT} {I J : Nat → Nat → Int32} {dn dn' : Bool} {ha nx : Nat} (h : mdE σ I s dn) (r49 : mR J 49 s ((sFl (sFl (sFl (sFl (sgR (sgR σ 2 (if ha = 0 then key1 (σ 0) zR0 0 else key2 (σ 0) zR0 0)) 3 (if ha = 0 then key2 (σ 0) zR0 0 else key1 (σ 0) zR0 0)) 13 (nI (nx + 1))) 7 (nI 1)) 10 (nI 0)) 11 (nI 0)) 2)) (r50 : mR J 50 s ((sFl (sFl (sFl (sFl (sgR (sgR σ 2 (if ha = 0 then key1 (σ 0) zR0 0 else key2 (σ 0) zR0 0)) 3 (if ha = 0 then key2 (σ 0) zR0 0 else key1 (σ 0) zR0 0)) 13 (nI (nx + 1))) 7 (nI 1)) 10 (nI 0)) 11 (nI 0)) 3)) (g42 : J 42 s = (sFl (sFl (sFl (sFl (sgR (sgR σ 2 (if ha = 0 then key1 (σ 0) zR0 0 else key2 (σ 0) zR0 0)) 3 (if ha = 0 then key2 (σ 0) zR0 0 else key1 (σ 0) zR0 0)) 13 (nI (nx + 1))) 7 (nI 1)) 10 (nI 0)) 11 (nI 0)) 7 7) (g43 : J 43 s = (sFl (sFl (sFl (sFl (sgR (sgR σ 2 (if ha = 0 then key1 (σ 0) zR0 0 else key2 (σ 0) zR0 0)) 3 (if ha = 0 then key2 (σ 0) zR0 0 else key1 (σ 0) zR0 0)) 13 (nI (nx + 1))) 7 (nI 1)) 10 (nI 0)) 11 (nI 0)) 7 10) (g40 : J 40 s = (sFl (sFl (sFl (sFl (sgR (sgR σ 2 (if ha = 0 then key1 (σ 0) zR0 0 else key2 (σ 0) zR0 0)) 3 (if ha = 0 then key2 (σ 0) zR0 0 else key1 (σ 0) zR0 0)) 13 (nI (nx + 1))) 7 (nI 1)) 10 (nI 0)) 11 (nI 0)) 7 13) (g44 : J 44 s = (sFl (sFl (sFl (sFl (sgR (sgR σ 2 (if ha = 0 then key1 (σ 0) zR0 0 else key2 (σ 0) zR0 0)) 3 (if ha = 0 then key2 (σ 0) zR0 0 else key1 (σ 0) zR0 0)) 13 (nI (nx + 1))) 7 (nI 1)) 10 (nI 0)) 11 (nI 0)) 7 11) (g41 : J 41 s = bI dn') (o : ∀ q, 39 ≤ q → q ≤ 54 → q ≠ 49 → q ≠ 50 → q ≠ 40 → q ≠ 42 → q ≠ 43 → q ≠ 44 → q ≠ 41 → J q = I q) : mdE (sFl (sFl (sFl (sFl (sgR (sgR σ 2 (if ha = 0 then key1 (σ 0) zR0 0 else key2 (σ 0) zR0 0)) 3 (if ha = 0 then key2 (σ 0) zR0 0 else key1 (σ 0) zR0 0)) 13 (nI (nx + 1))) 7 (nI 1)) 10 (nI 0)) 11 (nI 0)) J s dn' := by
  obtain ⟨h1, h2, h3, h4, h5, h6, h7, ⟨q1, q2, q3, q4, q5, q6⟩, h9, h10⟩ := h
  exact ⟨h1.o (o 47 (by decide) (by decide) (by decide) (by decide) (by decide) (by decide) (by decide) (by decide) (by decide)), h2.o (o 48 (by decide) (by decide) (by decide) (by decide) (by decide) (by decide) (by decide) (by decide) (by decide)), r49, r50, h5.o (o 52 (by decide) (by decide) (by decide) (by decide) (by decide) (by decide) (by decide) (by decide) (by decide)), h6.o (o 54 (by decide) (by decide) (by decide) (by decide) (by decide) (by decide) (by decide) (by decide) (by decide)), fun e => (h7 e).o (o 53 (by decide) (by decide) (by decide) (by decide) (by decide) (by decide) (by decide) (by decide) (by decide)), ⟨g42, by rw [o 45 (by decide) (by decide) (by decide) (by decide) (by decide) (by decide) (by decide) (by decide) (by decide)]; exact q2, by rw [o 46 (by decide) (by decide) (by decide) (by decide) (by decide) (by decide) (by decide) (by decide) (by decide)]; exact q3, g43, by rw [o 39 (by decide) (by decide) (by decide) (by decide) (by decide) (by decide) (by decide) (by decide) (by decide)]; exact q5, g40⟩, fun _ => g44, g41⟩
theorem mdE.f11 {s : Nat} {σ : sgT} {I J : Nat → Nat → Int32} {dn : Bool} {v : Int32} (h : mdE σ I s dn) (g44 : J 44 s = v) (o : ∀ q, 39 ≤ q → q ≤ 54 → q ≠ 44 → J q = I q) : mdE (sFl σ 11 v) J s dn := by
  obtain ⟨h1, h2, h3, h4, h5, h6, h7, ⟨q1, q2, q3, q4, q5, q6⟩, h9, h10⟩ := h
  exact ⟨h1.o (o _ (by decide) (by decide) (by decide)), h2.o (o _ (by decide) (by decide) (by decide)), h3.o (o _ (by decide) (by decide) (by decide)), h4.o (o _ (by decide) (by decide) (by decide)), h5.o (o _ (by decide) (by decide) (by decide)), h6.o (o _ (by decide) (by decide) (by decide)), fun e => (h7 e).o (o _ (by decide) (by decide) (by decide)), ⟨by rw [o 42 (by decide) (by decide) (by decide)]; exact q1, by rw [o 45 (by decide) (by decide) (by decide)]; exact q2, by rw [o 46 (by decide) (by decide) (by decide)]; exact q3, by rw [o 43 (by decide) (by decide) (by decide)]; exact q4, by rw [o 39 (by decide) (by decide) (by decide)]; exact q5, by rw [o 40 (by decide) (by decide) (by decide)]; exact q6⟩, fun _ => g44, by rw [o 41 (by decide) (by decide) (by decide)]; exact h10⟩
set_option maxHeartbeats 4000000 in
set_option maxRecDepth 100000 in
theorem ok0_X11_ends {l : Launch} {a0 : Nat} {D : va_G} {sa : Nat → Nat} {T : Nat → Option hKd} {I : Nat → Nat → Int32} {L : Nat → Nat → Int64} {R : Nat → Nat → Option Nat} {A : Nat → Nat} (mO : isM T R A a0) (hc : shC I) (s : Nat) (hs5 : s < 5) (σ : sgT) (hE : mdE σ I s false) (nx : Nat) (hnx : σ 7 13 = nI nx) (p ms : Nat) (hp34 : I 34 s = nI p) (hp8 : p < 8) (hms : I 26 p = nI ms) (hnm : nx < ms) (hm6 : ms ≤ 6) (ha : Nat) (hha : I 35 s = nI ha) (ha2 : ha < 2) (h01 : ha = 0) : hM l a0 D sa yX11_ends cX11_ends 3 none { frames := 5, cells := 0, slots := 0, locals := 131 } [.ref (A 63), .int (nI s)] (T, I, L, R, A) (fun r G' => r = none ∧ ∃ I', G' = (T, I', L, R, A) ∧ mdE (opZ ha ms nx σ) I' s (decide (ms ≤ nx + 1)) ∧ mF 5 s I I' ∧ I' 57 = I 57 ∧ I' 61 = I 61 ∧ I' 59 = I 59) := by
  refine hM.of (by decide +kernel) (Nat.le_of_ble_eq_true rfl) ?_
  intro z hl h0 hD hS hN C E
  subst hl; subst h0; subst hD; subst hS
  have C : hC z RX11 cX11_ends := C
  have hZ := E.2.2.2.1
  show hX z 0 0 (T, I, L, R, A) [(0, .ref (A 63)), (1, .int (nI s))] 0 []
  refine x_aload_n C dX11_ends_0 0 rfl rfl ?_
  refine x_getrN C fl_X11_195 mO.1 rfl (mO.2.2 40 _ rfl).1 dX11_ends_1 ?_
  refine x_iload_n C dX11_ends_4 1 rfl rfl ?_
  refine x_dup2 C dX11_ends_5 rfl rfl ?_
  refine x_ialdN C (mO.2.2 40 _ rfl).2.1 (by omega) (by omega) dX11_ends_6 ?_
  refine x_eqi (y := nI nx) (hE.2.2.2.2.2.2.2.1.2.2.2.2.2.trans hnx) ?_
  refine x_iconst (v := nI 1) C dX11_ends_7 (by decide +kernel) ?_
  refine x_iaddN C dX11_ends_8 ?_
  refine x_iastN C (mO.2.2 40 _ rfl).2.1 (mO.2.2 40 _ rfl).2.2 (by omega) (by omega) dX11_ends_9 (fun I1 eI1 => ?_)
  have F1 : fmS [40] I I1 := by rw [eI1]; exact (fmS.of fx.rf (by decide)).u (by decide) (by decide)
  refine x_aload_n C dX11_ends_10 0 rfl rfl ?_
  refine x_getrN C fl_X11_195 mO.1 rfl (mO.2.2 40 _ rfl).1 dX11_ends_11 ?_
  refine x_iload_n C dX11_ends_14 1 rfl rfl ?_
  refine x_ialdN C (mO.2.2 40 _ rfl).2.1 (by omega) (by omega) dX11_ends_15 ?_
  refine x_eqi (y := nI (nx + 1)) (by rw [eI1, va_up_same]; simp [upd]) ?_
  refine x_aload_n C dX11_ends_16 0 rfl rfl ?_
  refine x_getrN C fl_X11_156 mO.1 rfl (mO.2.2 26 _ rfl).1 dX11_ends_17 ?_
  refine x_aload_n C dX11_ends_20 0 rfl rfl ?_
  refine x_getrN C fl_X11_177 mO.1 rfl (mO.2.2 34 _ rfl).1 dX11_ends_21 ?_
  refine x_iload_n C dX11_ends_24 1 rfl rfl ?_
  refine x_ialdN C (mO.2.2 34 _ rfl).2.1 (by omega) (by omega) dX11_ends_25 ?_
  refine x_eqi (y := nI p) (by rw [eI1, va_up_other _ _ (by decide)]; exact hp34) ?_
  refine x_ialdN C (mO.2.2 26 _ rfl).2.1 (by omega) (by omega) dX11_ends_26 ?_
  refine x_eqi (y := nI ms) (by rw [eI1, va_up_other _ _ (by decide)]; exact hms) ?_
  refine x_icmp_neN (tgt := 148) C (by omega) (by omega) dX11_ends_27 (by decide) (fun c27 => ?_) (fun c27 => ?_)
  · exact x_vret C E (Nat.le_of_ble_eq_true rfl) (Nat.le_of_ble_eq_true rfl) dX11_ends_148 (by
      refine ⟨rfl, I1, rfl, ?_, ?_, F1.o 57 (by decide) (by decide), F1.o 61 (by decide) (by decide), F1.o 59 (by decide) (by decide)⟩
      · unfold opZ
        rw [if_pos (by omega), decide_eq_false (by omega)]
        exact hE.n (by rw [eI1, va_up_same]; simp [upd, sFl, sgR]) (fun q h1 h2 => by intros; exact F1.o q (by simp; omega) (by omega))
      · exact mF.fm F1 (by decide) (h13Z.o (F1.o 13 (by decide) (by decide))) (by intro q h1 h2 h3; simp at h1; subst h1; exact sdO.fld (by rw [eI1, va_up_same]) (by decide)))
  · refine x_aload_n C dX11_ends_30 0 rfl rfl ?_
    refine x_getrN C fl_X11_198 mO.1 rfl (mO.2.2 41 _ rfl).1 dX11_ends_31 ?_
    refine x_iload_n C dX11_ends_34 1 rfl rfl ?_
    refine x_iconst (v := nI 1) C dX11_ends_35 (by decide +kernel) ?_
    refine x_zastN C (mO.2.2 41 _ rfl).2.1 (mO.2.2 41 _ rfl).2.2 (by omega) (by omega) (by first | exact Or.inl rfl | exact Or.inr rfl | assumption) dX11_ends_36 (fun I2 eI2 => ?_)
    have F2 : fmS [40, 41] I I2 := by rw [eI2]; exact (F1.w (by simp)).u (by decide) (by decide)
    refine x_aload_n C dX11_ends_37 0 rfl rfl ?_
    refine x_aload_n C dX11_ends_38 0 rfl rfl ?_
    refine x_getrN C fl_X11_216 mO.1 rfl (mO.2.2 47 _ rfl).1 dX11_ends_39 ?_
    refine x_bipush (v := nI 32) C dX11_ends_42 (by decide +kernel) ?_
    refine x_iload_n C dX11_ends_44 1 rfl rfl ?_
    refine x_imulN C dX11_ends_45 ?_
    refine x_aload_n C dX11_ends_46 0 rfl rfl ?_
    refine x_getrN C fl_X11_252 mO.1 rfl (mO.2.2 62 _ rfl).1 dX11_ends_47 ?_
    refine x_iconst (v := nI 0) C dX11_ends_50 (by decide +kernel) ?_
    refine x_callV C (ok_X11_keys mO 47 160 (32 * s) 62 32 0 (F2.c (by decide) (by decide) hc).1 (F2.c (by decide) (by decide) hc).2 (mO.2.2 47 _ rfl).2.1 (by decide) (by omega) (by decide) (mO.2.2 62 _ rfl).2.1 (by decide) (by decide) (by decide) (by decide) (by decide)) mv_X11_keys ml_X11_390 mO.1 rfl rfl rfl (Nat.le_of_ble_eq_true rfl) (hrm (rm := { frames := 0, cells := 0, slots := 0, locals := 0 }) hZ ⟨Nat.le_of_ble_eq_true rfl, Nat.le_of_ble_eq_true rfl⟩) (hcs hZ ⟨Nat.le_of_ble_eq_true rfl, Nat.le_of_ble_eq_true rfl⟩) dX11_ends_51 (fun v G' hp => ?_)
    obtain ⟨rfl, J1, rfl, k1, k2, k3⟩ := hp
    have F3 : fmS [0, 2, 3, 6, 7, 8, 9, 40, 41, 42, 43, 44, 49, 50] I J1 := (F2.w (by simp)).t k3 (by simp)
    have k1 : ∀ i, i < 32 → J1 8 i = key1 (σ 0) zR0 0 i := fun i hi => by rw [k1 i hi]; exact congrFun (key1_cg (fun i hi => by rw [F2.o 47 (by decide) (by decide)]; exact hE.1 i hi) (fun _ h => absurd h (Nat.not_lt_zero _))) i
    have k2 : ∀ i, i < 32 → J1 9 i = key2 (σ 0) zR0 0 i := fun i hi => by rw [k2 i hi]; exact congrFun (key2_cg (fun i hi => by rw [F2.o 47 (by decide) (by decide)]; exact hE.1 i hi) (fun _ h => absurd h (Nat.not_lt_zero _))) i
    show hX z 0 0 (T, J1, L, R, A) [(0, .ref (A 63)), (1, .int (nI s))] 54 []
    refine x_aload_n C dX11_ends_54 0 rfl rfl ?_
    refine x_getrN C fl_X11_180 mO.1 rfl (mO.2.2 35 _ rfl).1 dX11_ends_55 ?_
    refine x_iload_n C dX11_ends_58 1 rfl rfl ?_
    refine x_ialdN C (mO.2.2 35 _ rfl).2.1 (by omega) (by omega) dX11_ends_59 ?_
    refine x_eqi (y := nI ha) (by rw [k3.o 35 (by decide) (by decide), F2.o 35 (by decide) (by decide)]; exact hha) ?_
    refine x_if_neN (tgt := 67) C (by omega) dX11_ends_60 (by decide) (fun c60 => absurd c60 (by omega)) (fun c60 => ?_)
    refine x_iconst (v := nI 1) C dX11_ends_63 (by decide +kernel) ?_
    refine x_goto (tgt := 68) C dX11_ends_64 (by decide) ?_
    refine x_istore_n (lv' := [(2, .int (nI 1)), (0, .ref (A 63)), (1, .int (nI s))]) C dX11_ends_68 rfl (Nat.lt_of_lt_of_eq (by decide) hN.symm) rfl ?_
    refine x_iload_n C dX11_ends_69 0 rfl rfl ?_
    refine x_if_eqN (tgt := 80) C (by omega) dX11_ends_70 (by decide) (fun c70 => absurd c70 (by omega)) (fun c70 => ?_)
    refine x_aload_n C dX11_ends_73 1 rfl rfl ?_
    refine x_getrN C fl_X11_103 mO.1 rfl (mO.2.2 8 _ rfl).1 dX11_ends_74 ?_
    refine x_goto (tgt := 84) C dX11_ends_77 (by decide) ?_
    refine x_iconst (v := nI 0) C dX11_ends_84 (by decide +kernel) ?_
    refine x_aload_n C dX11_ends_85 1 rfl rfl ?_
    refine x_getrN C fl_X11_222 mO.1 rfl (mO.2.2 49 _ rfl).1 dX11_ends_86 ?_
    refine x_bipush (v := nI 32) C dX11_ends_89 (by decide +kernel) ?_
    refine x_iload_n C dX11_ends_91 2 rfl rfl ?_
    refine x_imulN C dX11_ends_92 ?_
    refine x_bipush (v := nI 32) C dX11_ends_93 (by decide +kernel) ?_
    refine x_callS C (ok_X11_copy 8 49 (0) ((32 * s)) (32) 33 160 (mO.2.2 8 _ rfl).2.1 (mO.2.2 49 _ rfl).2.1 (mO.2.2 49 _ rfl).2.2 (by omega) (by omega) (by decide) (by decide) (fun e => absurd e (by decide))) ms_X11_copy ml_X11_270 rfl rfl (Nat.le_of_ble_eq_true rfl) (hrm (rm := { frames := 0, cells := 0, slots := 0, locals := 0 }) hZ ⟨Nat.le_of_ble_eq_true rfl, Nat.le_of_ble_eq_true rfl⟩) (hcs hZ ⟨Nat.le_of_ble_eq_true rfl, Nat.le_of_ble_eq_true rfl⟩) dX11_ends_95 (fun v G' hp => ?_)
    obtain ⟨rfl, rfl⟩ := hp
    generalize eI3 : va_up J1 49 (fun j => if (32 * s) ≤ j ∧ j < (32 * s) + 32 then J1 8 (0 + (j - (32 * s))) else J1 49 j) = I3
    have eI3 := eI3.symm
    show hX z 0 0 (T, I3, L, R, A) [(2, .int (nI 1)), (0, .ref (A 63)), (1, .int (nI s))] 98 []
    refine x_iload_n C dX11_ends_98 0 rfl rfl ?_
    refine x_if_eqN (tgt := 109) C (by omega) dX11_ends_99 (by decide) (fun c99 => absurd c99 (by omega)) (fun c99 => ?_)
    refine x_aload_n C dX11_ends_102 1 rfl rfl ?_
    refine x_getrN C fl_X11_106 mO.1 rfl (mO.2.2 9 _ rfl).1 dX11_ends_103 ?_
    refine x_goto (tgt := 113) C dX11_ends_106 (by decide) ?_
    refine x_iconst (v := nI 0) C dX11_ends_113 (by decide +kernel) ?_
    refine x_aload_n C dX11_ends_114 1 rfl rfl ?_
    refine x_getrN C fl_X11_225 mO.1 rfl (mO.2.2 50 _ rfl).1 dX11_ends_115 ?_
    refine x_bipush (v := nI 32) C dX11_ends_118 (by decide +kernel) ?_
    refine x_iload_n C dX11_ends_120 2 rfl rfl ?_
    refine x_imulN C dX11_ends_121 ?_
    refine x_bipush (v := nI 32) C dX11_ends_122 (by decide +kernel) ?_
    refine x_callS C (ok_X11_copy 9 50 (0) ((32 * s)) (32) 32 160 (mO.2.2 9 _ rfl).2.1 (mO.2.2 50 _ rfl).2.1 (mO.2.2 50 _ rfl).2.2 (by omega) (by omega) (by decide) (by decide) (fun e => absurd e (by decide))) ms_X11_copy ml_X11_270 rfl rfl (Nat.le_of_ble_eq_true rfl) (hrm (rm := { frames := 0, cells := 0, slots := 0, locals := 0 }) hZ ⟨Nat.le_of_ble_eq_true rfl, Nat.le_of_ble_eq_true rfl⟩) (hcs hZ ⟨Nat.le_of_ble_eq_true rfl, Nat.le_of_ble_eq_true rfl⟩) dX11_ends_124 (fun v G' hp => ?_)
    obtain ⟨rfl, rfl⟩ := hp
    generalize eI4 : va_up I3 50 (fun j => if (32 * s) ≤ j ∧ j < (32 * s) + 32 then I3 9 (0 + (j - (32 * s))) else I3 50 j) = I4
    have eI4 := eI4.symm
    show hX z 0 0 (T, I4, L, R, A) [(2, .int (nI 1)), (0, .ref (A 63)), (1, .int (nI s))] 127 []
    refine x_aload_n C dX11_ends_127 1 rfl rfl ?_
    refine x_getrN C fl_X11_201 mO.1 rfl (mO.2.2 42 _ rfl).1 dX11_ends_128 ?_
    refine x_iload_n C dX11_ends_131 2 rfl rfl ?_
    refine x_iconst (v := nI 1) C dX11_ends_132 (by decide +kernel) ?_
    refine x_zastN C (mO.2.2 42 _ rfl).2.1 (mO.2.2 42 _ rfl).2.2 (by omega) (by omega) (by first | exact Or.inl rfl | exact Or.inr rfl | assumption) dX11_ends_133 (fun I5 eI5 => ?_)
    refine x_aload_n C dX11_ends_134 1 rfl rfl ?_
    refine x_getrN C fl_X11_204 mO.1 rfl (mO.2.2 43 _ rfl).1 dX11_ends_135 ?_
    refine x_iload_n C dX11_ends_138 2 rfl rfl ?_
    refine x_iconst (v := nI 0) C dX11_ends_139 (by decide +kernel) ?_
    refine x_iastN C (mO.2.2 43 _ rfl).2.1 (mO.2.2 43 _ rfl).2.2 (by omega) (by omega) dX11_ends_140 (fun I6 eI6 => ?_)
    refine x_aload_n C dX11_ends_141 1 rfl rfl ?_
    refine x_getrN C fl_X11_207 mO.1 rfl (mO.2.2 44 _ rfl).1 dX11_ends_142 ?_
    refine x_iload_n C dX11_ends_145 2 rfl rfl ?_
    refine x_iconst (v := nI 0) C dX11_ends_146 (by decide +kernel) ?_
    refine x_iastN C (mO.2.2 44 _ rfl).2.1 (mO.2.2 44 _ rfl).2.2 (by omega) (by omega) dX11_ends_147 (fun I7 eI7 => ?_)
    exact x_vret C E (Nat.le_of_ble_eq_true rfl) (Nat.le_of_ble_eq_true rfl) dX11_ends_148 (by
        have F4 : fmS [0, 2, 3, 6, 7, 8, 9, 40, 41, 42, 43, 44, 49, 50] I I7 := by rw [eI7, eI6, eI5, eI4, eI3]; exact ((((F3.u (by decide) (by decide)).u (by decide) (by decide)).u (by decide) (by decide)).u (by decide) (by decide)).u (by decide) (by decide)
        have w49 : wRow I I7 49 s (if ha = 0 then key1 (σ 0) zR0 0 else key2 (σ 0) zR0 0) := by
          refine (wRow.cp (J := J1) (K := I3) (a := 8) (by rw [eI3, va_up_same]) (fun i hi => ?_) (by rw [k3.o 49 (by decide) (by decide), F2.o 49 (by decide) (by decide)])).to (by rw [eI7, va_up_other _ _ (by decide), eI6, va_up_other _ _ (by decide), eI5, va_up_other _ _ (by decide), eI4, va_up_other _ _ (by decide)])
          rw [if_pos h01]; exact k1 i hi
        have w50 : wRow I I7 50 s (if ha = 0 then key2 (σ 0) zR0 0 else key1 (σ 0) zR0 0) := by
          refine (wRow.cp (J := I3) (K := I4) (a := 9) (by rw [eI4, va_up_same]) (fun i hi => ?_) (by rw [eI3, va_up_other _ _ (by decide), k3.o 50 (by decide) (by decide), F2.o 50 (by decide) (by decide)])).to (by rw [eI7, va_up_other _ _ (by decide), eI6, va_up_other _ _ (by decide), eI5, va_up_other _ _ (by decide)])
          rw [if_pos h01, eI3, va_up_other _ _ (by decide)]; exact k2 i hi
        have g40 : I7 40 = upd (I 40) s (nI (nx + 1)) := by rw [eI7, va_up_other _ _ (by decide), eI6, va_up_other _ _ (by decide), eI5, va_up_other _ _ (by decide), eI4, va_up_other _ _ (by decide), eI3, va_up_other _ _ (by decide), k3.o 40 (by decide) (by decide), eI2, va_up_other _ _ (by decide), eI1, va_up_same]
        have g41 : I7 41 = upd (I 41) s (nI 1) := by rw [eI7, va_up_other _ _ (by decide), eI6, va_up_other _ _ (by decide), eI5, va_up_other _ _ (by decide), eI4, va_up_other _ _ (by decide), eI3, va_up_other _ _ (by decide), k3.o 41 (by decide) (by decide), eI2, va_up_same, F1.o 41 (by decide) (by decide)]
        have g42 : I7 42 = upd (I 42) s (nI 1) := by rw [eI7, va_up_other _ _ (by decide), eI6, va_up_other _ _ (by decide), eI5, va_up_same, eI4, va_up_other _ _ (by decide), eI3, va_up_other _ _ (by decide), k3.o 42 (by decide) (by decide), F2.o 42 (by decide) (by decide)]
        have g43 : I7 43 = upd (I 43) s (nI 0) := by rw [eI7, va_up_other _ _ (by decide), eI6, va_up_same, eI5, va_up_other _ _ (by decide), eI4, va_up_other _ _ (by decide), eI3, va_up_other _ _ (by decide), k3.o 43 (by decide) (by decide), F2.o 43 (by decide) (by decide)]
        have g44 : I7 44 = upd (I 44) s (nI 0) := by rw [eI7, va_up_same, eI6, va_up_other _ _ (by decide), eI5, va_up_other _ _ (by decide), eI4, va_up_other _ _ (by decide), eI3, va_up_other _ _ (by decide), k3.o 44 (by decide) (by decide), F2.o 44 (by decide) (by decide)]
        refine ⟨rfl, I7, rfl, ?_, ?_, F4.o 57 (by decide) (by decide), F4.o 61 (by decide) (by decide), F4.o 59 (by decide) (by decide)⟩
        · unfold opZ
          rw [if_neg (by omega), decide_eq_true (by omega)]
          exact hE.z w49.1 w50.1 (by rw [g42]; simp [upd, sFl, sgR]) (by rw [g43]; simp [upd, sFl, sgR]) (by rw [g40]; simp [upd, sFl, sgR]) (by rw [g44]; simp [upd, sFl, sgR]) (by rw [g41]; simp [upd]; rfl) (fun q h1 h2 => by intros; exact F4.o q (by simp; omega) (by omega))
        · refine mF.fm F4 (by decide) (h13Z.o (F4.o 13 (by decide) (by decide))) (fun q h1 h2 h3 => ?_)
          simp at h1
          rcases (show q = 40 ∨ q = 41 ∨ q = 42 ∨ q = 43 ∨ q = 44 ∨ q = 49 ∨ q = 50 by omega) with rfl | rfl | rfl | rfl | rfl | rfl | rfl
          · exact sdO.fld g40 (by decide)
          · exact sdO.fld g41 (by decide)
          · exact sdO.fld g42 (by decide)
          · exact sdO.fld g43 (by decide)
          · exact sdO.fld g44 (by decide)
          · exact sdO.row w49 (by decide)
          · exact sdO.row w50 (by decide))

set_option maxHeartbeats 4000000 in
set_option maxRecDepth 100000 in
theorem ok1_X11_ends {l : Launch} {a0 : Nat} {D : va_G} {sa : Nat → Nat} {T : Nat → Option hKd} {I : Nat → Nat → Int32} {L : Nat → Nat → Int64} {R : Nat → Nat → Option Nat} {A : Nat → Nat} (mO : isM T R A a0) (hc : shC I) (s : Nat) (hs5 : s < 5) (σ : sgT) (hE : mdE σ I s false) (nx : Nat) (hnx : σ 7 13 = nI nx) (p ms : Nat) (hp34 : I 34 s = nI p) (hp8 : p < 8) (hms : I 26 p = nI ms) (hnm : nx < ms) (hm6 : ms ≤ 6) (ha : Nat) (hha : I 35 s = nI ha) (ha2 : ha < 2) (h01 : ha = 1) : hM l a0 D sa yX11_ends cX11_ends 3 none { frames := 5, cells := 0, slots := 0, locals := 131 } [.ref (A 63), .int (nI s)] (T, I, L, R, A) (fun r G' => r = none ∧ ∃ I', G' = (T, I', L, R, A) ∧ mdE (opZ ha ms nx σ) I' s (decide (ms ≤ nx + 1)) ∧ mF 5 s I I' ∧ I' 57 = I 57 ∧ I' 61 = I 61 ∧ I' 59 = I 59) := by
  refine hM.of (by decide +kernel) (Nat.le_of_ble_eq_true rfl) ?_
  intro z hl h0 hD hS hN C E
  subst hl; subst h0; subst hD; subst hS
  have C : hC z RX11 cX11_ends := C
  have hZ := E.2.2.2.1
  show hX z 0 0 (T, I, L, R, A) [(0, .ref (A 63)), (1, .int (nI s))] 0 []
  refine x_aload_n C dX11_ends_0 0 rfl rfl ?_
  refine x_getrN C fl_X11_195 mO.1 rfl (mO.2.2 40 _ rfl).1 dX11_ends_1 ?_
  refine x_iload_n C dX11_ends_4 1 rfl rfl ?_
  refine x_dup2 C dX11_ends_5 rfl rfl ?_
  refine x_ialdN C (mO.2.2 40 _ rfl).2.1 (by omega) (by omega) dX11_ends_6 ?_
  refine x_eqi (y := nI nx) (hE.2.2.2.2.2.2.2.1.2.2.2.2.2.trans hnx) ?_
  refine x_iconst (v := nI 1) C dX11_ends_7 (by decide +kernel) ?_
  refine x_iaddN C dX11_ends_8 ?_
  refine x_iastN C (mO.2.2 40 _ rfl).2.1 (mO.2.2 40 _ rfl).2.2 (by omega) (by omega) dX11_ends_9 (fun I1 eI1 => ?_)
  have F1 : fmS [40] I I1 := by rw [eI1]; exact (fmS.of fx.rf (by decide)).u (by decide) (by decide)
  refine x_aload_n C dX11_ends_10 0 rfl rfl ?_
  refine x_getrN C fl_X11_195 mO.1 rfl (mO.2.2 40 _ rfl).1 dX11_ends_11 ?_
  refine x_iload_n C dX11_ends_14 1 rfl rfl ?_
  refine x_ialdN C (mO.2.2 40 _ rfl).2.1 (by omega) (by omega) dX11_ends_15 ?_
  refine x_eqi (y := nI (nx + 1)) (by rw [eI1, va_up_same]; simp [upd]) ?_
  refine x_aload_n C dX11_ends_16 0 rfl rfl ?_
  refine x_getrN C fl_X11_156 mO.1 rfl (mO.2.2 26 _ rfl).1 dX11_ends_17 ?_
  refine x_aload_n C dX11_ends_20 0 rfl rfl ?_
  refine x_getrN C fl_X11_177 mO.1 rfl (mO.2.2 34 _ rfl).1 dX11_ends_21 ?_
  refine x_iload_n C dX11_ends_24 1 rfl rfl ?_
  refine x_ialdN C (mO.2.2 34 _ rfl).2.1 (by omega) (by omega) dX11_ends_25 ?_
  refine x_eqi (y := nI p) (by rw [eI1, va_up_other _ _ (by decide)]; exact hp34) ?_
  refine x_ialdN C (mO.2.2 26 _ rfl).2.1 (by omega) (by omega) dX11_ends_26 ?_
  refine x_eqi (y := nI ms) (by rw [eI1, va_up_other _ _ (by decide)]; exact hms) ?_
  refine x_icmp_neN (tgt := 148) C (by omega) (by omega) dX11_ends_27 (by decide) (fun c27 => ?_) (fun c27 => ?_)
  · exact x_vret C E (Nat.le_of_ble_eq_true rfl) (Nat.le_of_ble_eq_true rfl) dX11_ends_148 (by
      refine ⟨rfl, I1, rfl, ?_, ?_, F1.o 57 (by decide) (by decide), F1.o 61 (by decide) (by decide), F1.o 59 (by decide) (by decide)⟩
      · unfold opZ
        rw [if_pos (by omega), decide_eq_false (by omega)]
        exact hE.n (by rw [eI1, va_up_same]; simp [upd, sFl, sgR]) (fun q h1 h2 => by intros; exact F1.o q (by simp; omega) (by omega))
      · exact mF.fm F1 (by decide) (h13Z.o (F1.o 13 (by decide) (by decide))) (by intro q h1 h2 h3; simp at h1; subst h1; exact sdO.fld (by rw [eI1, va_up_same]) (by decide)))
  · refine x_aload_n C dX11_ends_30 0 rfl rfl ?_
    refine x_getrN C fl_X11_198 mO.1 rfl (mO.2.2 41 _ rfl).1 dX11_ends_31 ?_
    refine x_iload_n C dX11_ends_34 1 rfl rfl ?_
    refine x_iconst (v := nI 1) C dX11_ends_35 (by decide +kernel) ?_
    refine x_zastN C (mO.2.2 41 _ rfl).2.1 (mO.2.2 41 _ rfl).2.2 (by omega) (by omega) (by first | exact Or.inl rfl | exact Or.inr rfl | assumption) dX11_ends_36 (fun I2 eI2 => ?_)
    have F2 : fmS [40, 41] I I2 := by rw [eI2]; exact (F1.w (by simp)).u (by decide) (by decide)
    refine x_aload_n C dX11_ends_37 0 rfl rfl ?_
    refine x_aload_n C dX11_ends_38 0 rfl rfl ?_
    refine x_getrN C fl_X11_216 mO.1 rfl (mO.2.2 47 _ rfl).1 dX11_ends_39 ?_
    refine x_bipush (v := nI 32) C dX11_ends_42 (by decide +kernel) ?_
    refine x_iload_n C dX11_ends_44 1 rfl rfl ?_
    refine x_imulN C dX11_ends_45 ?_
    refine x_aload_n C dX11_ends_46 0 rfl rfl ?_
    refine x_getrN C fl_X11_252 mO.1 rfl (mO.2.2 62 _ rfl).1 dX11_ends_47 ?_
    refine x_iconst (v := nI 0) C dX11_ends_50 (by decide +kernel) ?_
    refine x_callV C (ok_X11_keys mO 47 160 (32 * s) 62 32 0 (F2.c (by decide) (by decide) hc).1 (F2.c (by decide) (by decide) hc).2 (mO.2.2 47 _ rfl).2.1 (by decide) (by omega) (by decide) (mO.2.2 62 _ rfl).2.1 (by decide) (by decide) (by decide) (by decide) (by decide)) mv_X11_keys ml_X11_390 mO.1 rfl rfl rfl (Nat.le_of_ble_eq_true rfl) (hrm (rm := { frames := 0, cells := 0, slots := 0, locals := 0 }) hZ ⟨Nat.le_of_ble_eq_true rfl, Nat.le_of_ble_eq_true rfl⟩) (hcs hZ ⟨Nat.le_of_ble_eq_true rfl, Nat.le_of_ble_eq_true rfl⟩) dX11_ends_51 (fun v G' hp => ?_)
    obtain ⟨rfl, J1, rfl, k1, k2, k3⟩ := hp
    have F3 : fmS [0, 2, 3, 6, 7, 8, 9, 40, 41, 42, 43, 44, 49, 50] I J1 := (F2.w (by simp)).t k3 (by simp)
    have k1 : ∀ i, i < 32 → J1 8 i = key1 (σ 0) zR0 0 i := fun i hi => by rw [k1 i hi]; exact congrFun (key1_cg (fun i hi => by rw [F2.o 47 (by decide) (by decide)]; exact hE.1 i hi) (fun _ h => absurd h (Nat.not_lt_zero _))) i
    have k2 : ∀ i, i < 32 → J1 9 i = key2 (σ 0) zR0 0 i := fun i hi => by rw [k2 i hi]; exact congrFun (key2_cg (fun i hi => by rw [F2.o 47 (by decide) (by decide)]; exact hE.1 i hi) (fun _ h => absurd h (Nat.not_lt_zero _))) i
    show hX z 0 0 (T, J1, L, R, A) [(0, .ref (A 63)), (1, .int (nI s))] 54 []
    refine x_aload_n C dX11_ends_54 0 rfl rfl ?_
    refine x_getrN C fl_X11_180 mO.1 rfl (mO.2.2 35 _ rfl).1 dX11_ends_55 ?_
    refine x_iload_n C dX11_ends_58 1 rfl rfl ?_
    refine x_ialdN C (mO.2.2 35 _ rfl).2.1 (by omega) (by omega) dX11_ends_59 ?_
    refine x_eqi (y := nI ha) (by rw [k3.o 35 (by decide) (by decide), F2.o 35 (by decide) (by decide)]; exact hha) ?_
    refine x_if_neN (tgt := 67) C (by omega) dX11_ends_60 (by decide) (fun c60 => ?_) (fun c60 => absurd c60 (by omega))
    refine x_iconst (v := nI 0) C dX11_ends_67 (by decide +kernel) ?_
    refine x_istore_n (lv' := [(2, .int (nI 0)), (0, .ref (A 63)), (1, .int (nI s))]) C dX11_ends_68 rfl (Nat.lt_of_lt_of_eq (by decide) hN.symm) rfl ?_
    refine x_iload_n C dX11_ends_69 0 rfl rfl ?_
    refine x_if_eqN (tgt := 80) C (by omega) dX11_ends_70 (by decide) (fun c70 => ?_) (fun c70 => absurd c70 (by omega))
    refine x_aload_n C dX11_ends_80 1 rfl rfl ?_
    refine x_getrN C fl_X11_106 mO.1 rfl (mO.2.2 9 _ rfl).1 dX11_ends_81 ?_
    refine x_iconst (v := nI 0) C dX11_ends_84 (by decide +kernel) ?_
    refine x_aload_n C dX11_ends_85 1 rfl rfl ?_
    refine x_getrN C fl_X11_222 mO.1 rfl (mO.2.2 49 _ rfl).1 dX11_ends_86 ?_
    refine x_bipush (v := nI 32) C dX11_ends_89 (by decide +kernel) ?_
    refine x_iload_n C dX11_ends_91 2 rfl rfl ?_
    refine x_imulN C dX11_ends_92 ?_
    refine x_bipush (v := nI 32) C dX11_ends_93 (by decide +kernel) ?_
    refine x_callS C (ok_X11_copy 9 49 (0) ((32 * s)) (32) 32 160 (mO.2.2 9 _ rfl).2.1 (mO.2.2 49 _ rfl).2.1 (mO.2.2 49 _ rfl).2.2 (by omega) (by omega) (by decide) (by decide) (fun e => absurd e (by decide))) ms_X11_copy ml_X11_270 rfl rfl (Nat.le_of_ble_eq_true rfl) (hrm (rm := { frames := 0, cells := 0, slots := 0, locals := 0 }) hZ ⟨Nat.le_of_ble_eq_true rfl, Nat.le_of_ble_eq_true rfl⟩) (hcs hZ ⟨Nat.le_of_ble_eq_true rfl, Nat.le_of_ble_eq_true rfl⟩) dX11_ends_95 (fun v G' hp => ?_)
    obtain ⟨rfl, rfl⟩ := hp
    generalize eI3 : va_up J1 49 (fun j => if (32 * s) ≤ j ∧ j < (32 * s) + 32 then J1 9 (0 + (j - (32 * s))) else J1 49 j) = I3
    have eI3 := eI3.symm
    show hX z 0 0 (T, I3, L, R, A) [(2, .int (nI 0)), (0, .ref (A 63)), (1, .int (nI s))] 98 []
    refine x_iload_n C dX11_ends_98 0 rfl rfl ?_
    refine x_if_eqN (tgt := 109) C (by omega) dX11_ends_99 (by decide) (fun c99 => ?_) (fun c99 => absurd c99 (by omega))
    refine x_aload_n C dX11_ends_109 1 rfl rfl ?_
    refine x_getrN C fl_X11_103 mO.1 rfl (mO.2.2 8 _ rfl).1 dX11_ends_110 ?_
    refine x_iconst (v := nI 0) C dX11_ends_113 (by decide +kernel) ?_
    refine x_aload_n C dX11_ends_114 1 rfl rfl ?_
    refine x_getrN C fl_X11_225 mO.1 rfl (mO.2.2 50 _ rfl).1 dX11_ends_115 ?_
    refine x_bipush (v := nI 32) C dX11_ends_118 (by decide +kernel) ?_
    refine x_iload_n C dX11_ends_120 2 rfl rfl ?_
    refine x_imulN C dX11_ends_121 ?_
    refine x_bipush (v := nI 32) C dX11_ends_122 (by decide +kernel) ?_
    refine x_callS C (ok_X11_copy 8 50 (0) ((32 * s)) (32) 33 160 (mO.2.2 8 _ rfl).2.1 (mO.2.2 50 _ rfl).2.1 (mO.2.2 50 _ rfl).2.2 (by omega) (by omega) (by decide) (by decide) (fun e => absurd e (by decide))) ms_X11_copy ml_X11_270 rfl rfl (Nat.le_of_ble_eq_true rfl) (hrm (rm := { frames := 0, cells := 0, slots := 0, locals := 0 }) hZ ⟨Nat.le_of_ble_eq_true rfl, Nat.le_of_ble_eq_true rfl⟩) (hcs hZ ⟨Nat.le_of_ble_eq_true rfl, Nat.le_of_ble_eq_true rfl⟩) dX11_ends_124 (fun v G' hp => ?_)
    obtain ⟨rfl, rfl⟩ := hp
    generalize eI4 : va_up I3 50 (fun j => if (32 * s) ≤ j ∧ j < (32 * s) + 32 then I3 8 (0 + (j - (32 * s))) else I3 50 j) = I4
    have eI4 := eI4.symm
    show hX z 0 0 (T, I4, L, R, A) [(2, .int (nI 0)), (0, .ref (A 63)), (1, .int (nI s))] 127 []
    refine x_aload_n C dX11_ends_127 1 rfl rfl ?_
    refine x_getrN C fl_X11_201 mO.1 rfl (mO.2.2 42 _ rfl).1 dX11_ends_128 ?_
    refine x_iload_n C dX11_ends_131 2 rfl rfl ?_
    refine x_iconst (v := nI 1) C dX11_ends_132 (by decide +kernel) ?_
    refine x_zastN C (mO.2.2 42 _ rfl).2.1 (mO.2.2 42 _ rfl).2.2 (by omega) (by omega) (by first | exact Or.inl rfl | exact Or.inr rfl | assumption) dX11_ends_133 (fun I5 eI5 => ?_)
    refine x_aload_n C dX11_ends_134 1 rfl rfl ?_
    refine x_getrN C fl_X11_204 mO.1 rfl (mO.2.2 43 _ rfl).1 dX11_ends_135 ?_
    refine x_iload_n C dX11_ends_138 2 rfl rfl ?_
    refine x_iconst (v := nI 0) C dX11_ends_139 (by decide +kernel) ?_
    refine x_iastN C (mO.2.2 43 _ rfl).2.1 (mO.2.2 43 _ rfl).2.2 (by omega) (by omega) dX11_ends_140 (fun I6 eI6 => ?_)
    refine x_aload_n C dX11_ends_141 1 rfl rfl ?_
    refine x_getrN C fl_X11_207 mO.1 rfl (mO.2.2 44 _ rfl).1 dX11_ends_142 ?_
    refine x_iload_n C dX11_ends_145 2 rfl rfl ?_
    refine x_iconst (v := nI 0) C dX11_ends_146 (by decide +kernel) ?_
    refine x_iastN C (mO.2.2 44 _ rfl).2.1 (mO.2.2 44 _ rfl).2.2 (by omega) (by omega) dX11_ends_147 (fun I7 eI7 => ?_)
    exact x_vret C E (Nat.le_of_ble_eq_true rfl) (Nat.le_of_ble_eq_true rfl) dX11_ends_148 (by
        have F4 : fmS [0, 2, 3, 6, 7, 8, 9, 40, 41, 42, 43, 44, 49, 50] I I7 := by rw [eI7, eI6, eI5, eI4, eI3]; exact ((((F3.u (by decide) (by decide)).u (by decide) (by decide)).u (by decide) (by decide)).u (by decide) (by decide)).u (by decide) (by decide)
        have w49 : wRow I I7 49 s (if ha = 0 then key1 (σ 0) zR0 0 else key2 (σ 0) zR0 0) := by
          refine (wRow.cp (J := J1) (K := I3) (a := 9) (by rw [eI3, va_up_same]) (fun i hi => ?_) (by rw [k3.o 49 (by decide) (by decide), F2.o 49 (by decide) (by decide)])).to (by rw [eI7, va_up_other _ _ (by decide), eI6, va_up_other _ _ (by decide), eI5, va_up_other _ _ (by decide), eI4, va_up_other _ _ (by decide)])
          rw [if_neg (by omega)]; exact k2 i hi
        have w50 : wRow I I7 50 s (if ha = 0 then key2 (σ 0) zR0 0 else key1 (σ 0) zR0 0) := by
          refine (wRow.cp (J := I3) (K := I4) (a := 8) (by rw [eI4, va_up_same]) (fun i hi => ?_) (by rw [eI3, va_up_other _ _ (by decide), k3.o 50 (by decide) (by decide), F2.o 50 (by decide) (by decide)])).to (by rw [eI7, va_up_other _ _ (by decide), eI6, va_up_other _ _ (by decide), eI5, va_up_other _ _ (by decide)])
          rw [if_neg (by omega), eI3, va_up_other _ _ (by decide)]; exact k1 i hi
        have g40 : I7 40 = upd (I 40) s (nI (nx + 1)) := by rw [eI7, va_up_other _ _ (by decide), eI6, va_up_other _ _ (by decide), eI5, va_up_other _ _ (by decide), eI4, va_up_other _ _ (by decide), eI3, va_up_other _ _ (by decide), k3.o 40 (by decide) (by decide), eI2, va_up_other _ _ (by decide), eI1, va_up_same]
        have g41 : I7 41 = upd (I 41) s (nI 1) := by rw [eI7, va_up_other _ _ (by decide), eI6, va_up_other _ _ (by decide), eI5, va_up_other _ _ (by decide), eI4, va_up_other _ _ (by decide), eI3, va_up_other _ _ (by decide), k3.o 41 (by decide) (by decide), eI2, va_up_same, F1.o 41 (by decide) (by decide)]
        have g42 : I7 42 = upd (I 42) s (nI 1) := by rw [eI7, va_up_other _ _ (by decide), eI6, va_up_other _ _ (by decide), eI5, va_up_same, eI4, va_up_other _ _ (by decide), eI3, va_up_other _ _ (by decide), k3.o 42 (by decide) (by decide), F2.o 42 (by decide) (by decide)]
        have g43 : I7 43 = upd (I 43) s (nI 0) := by rw [eI7, va_up_other _ _ (by decide), eI6, va_up_same, eI5, va_up_other _ _ (by decide), eI4, va_up_other _ _ (by decide), eI3, va_up_other _ _ (by decide), k3.o 43 (by decide) (by decide), F2.o 43 (by decide) (by decide)]
        have g44 : I7 44 = upd (I 44) s (nI 0) := by rw [eI7, va_up_same, eI6, va_up_other _ _ (by decide), eI5, va_up_other _ _ (by decide), eI4, va_up_other _ _ (by decide), eI3, va_up_other _ _ (by decide), k3.o 44 (by decide) (by decide), F2.o 44 (by decide) (by decide)]
        refine ⟨rfl, I7, rfl, ?_, ?_, F4.o 57 (by decide) (by decide), F4.o 61 (by decide) (by decide), F4.o 59 (by decide) (by decide)⟩
        · unfold opZ
          rw [if_neg (by omega), decide_eq_true (by omega)]
          exact hE.z w49.1 w50.1 (by rw [g42]; simp [upd, sFl, sgR]) (by rw [g43]; simp [upd, sFl, sgR]) (by rw [g40]; simp [upd, sFl, sgR]) (by rw [g44]; simp [upd, sFl, sgR]) (by rw [g41]; simp [upd]; rfl) (fun q h1 h2 => by intros; exact F4.o q (by simp; omega) (by omega))
        · refine mF.fm F4 (by decide) (h13Z.o (F4.o 13 (by decide) (by decide))) (fun q h1 h2 h3 => ?_)
          simp at h1
          rcases (show q = 40 ∨ q = 41 ∨ q = 42 ∨ q = 43 ∨ q = 44 ∨ q = 49 ∨ q = 50 by omega) with rfl | rfl | rfl | rfl | rfl | rfl | rfl
          · exact sdO.fld g40 (by decide)
          · exact sdO.fld g41 (by decide)
          · exact sdO.fld g42 (by decide)
          · exact sdO.fld g43 (by decide)
          · exact sdO.fld g44 (by decide)
          · exact sdO.row w49 (by decide)
          · exact sdO.row w50 (by decide))

theorem ok_X11_ends {l : Launch} {a0 : Nat} {D : va_G} {sa : Nat → Nat} {T : Nat → Option hKd} {I : Nat → Nat → Int32} {L : Nat → Nat → Int64} {R : Nat → Nat → Option Nat} {A : Nat → Nat} (mO : isM T R A a0) (hc : shC I) (s : Nat) (hs5 : s < 5) (σ : sgT) (hE : mdE σ I s false) (nx : Nat) (hnx : σ 7 13 = nI nx) (p ms : Nat) (hp34 : I 34 s = nI p) (hp8 : p < 8) (hms : I 26 p = nI ms) (hnm : nx < ms) (hm6 : ms ≤ 6) (ha : Nat) (hha : I 35 s = nI ha) (ha2 : ha < 2) : hM l a0 D sa yX11_ends cX11_ends 3 none { frames := 5, cells := 0, slots := 0, locals := 131 } [.ref (A 63), .int (nI s)] (T, I, L, R, A) (fun r G' => r = none ∧ ∃ I', G' = (T, I', L, R, A) ∧ mdE (opZ ha ms nx σ) I' s (decide (ms ≤ nx + 1)) ∧ mF 5 s I I' ∧ I' 57 = I 57 ∧ I' 61 = I 61 ∧ I' 59 = I 59) := by
  by_cases h01 : ha = 0
  · exact ok0_X11_ends mO hc s hs5 σ hE nx hnx p ms hp34 hp8 hms hnm hm6 ha hha ha2 h01
  · exact ok1_X11_ends mO hc s hs5 σ hE nx hnx p ms hp34 hp8 hms hnm hm6 ha hha ha2 (by omega)
