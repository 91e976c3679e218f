/-! ===== a pattern without a fault ===== -/
theorem fAt_2 (t h kb dn : Nat) : 2 ≤ fAt t h kb dn := by
  unfold fAt; split <;> split <;> first | omega | (split <;> omega)
theorem tkS_1 (h : Nat) (tk : Nat → Nat) (q : jS) : ∀ k, (tkS h tk q k).1 = 6 → q.1 ≤ 6 → q.1 = 6 ∧ ∀ i, i < k → fAt (tk i) h (tkS h tk q i).2.1 (tkS h tk q i).2.2 = 6 := by
  intro k
  induction k with
  | zero => intro e _; exact ⟨e, fun i hi => absurd hi (Nat.not_lt_zero i)⟩
  | succ k ih =>
    intro e hq
    have e : min (tkS h tk q k).1 (fAt (tk k) h (tkS h tk q k).2.1 (tkS h tk q k).2.2) = 6 := e
    have h6 := fAt_6 (tk k) h (tkS h tk q k).2.1 (tkS h tk q k).2.2
    have hl : (tkS h tk q k).1 = 6 ∧ fAt (tk k) h (tkS h tk q k).2.1 (tkS h tk q k).2.2 = 6 := by
      have : ∀ j, (tkS h tk q j).1 ≤ 6 := by
        intro j
        induction j with
        | zero => exact hq
        | succ j ihj => exact Nat.le_trans (Nat.min_le_left _ _) ihj
      have := this k
      omega
    refine ⟨(ih hl.1 hq).1, fun i hi => ?_⟩
    rcases Nat.lt_or_ge i k with h9 | h9
    · exact (ih hl.1 hq).2 i h9
    · have : i = k := by omega
      subst this
      exact hl.2
theorem mgS_2 {kn : Nat → Bool} {sz : Nat → Nat} {tk : Nat → Nat → Nat} (m : Nat) : 2 ≤ (mgS kn sz tk m).1 := by
  induction m with
  | zero => show 2 ≤ 6; decide
  | succ m ih =>
    have h1 : ∀ k, 2 ≤ (tkS (m % 2) (tk m) (mgS kn sz tk m) k).1 := by
      intro k
      induction k with
      | zero => exact ih
      | succ k ihk =>
        show 2 ≤ min _ _
        have := fAt_2 (tk m k) (m % 2) (tkS (m % 2) (tk m) (mgS kn sz tk m) k).2.1 (tkS (m % 2) (tk m) (mgS kn sz tk m) k).2.2
        omega
    have := h1 (sz m)
    show 2 ≤ (if _ then min _ 5 else _)
    split
    · exact Nat.le_min.mpr ⟨this, by decide⟩
    · exact this
theorem mgS_6 {kn : Nat → Bool} {sz : Nat → Nat} {tk : Nat → Nat → Nat} (ht : ∀ m k, tk m k ≤ 5) : ∀ ms, (mgS kn sz tk ms).1 = 6 → ∀ m, m < ms → ∀ k, k < sz m → fAt (tk m k) (m % 2) (tkS (m % 2) (tk m) (mgS kn sz tk m) k).2.1 (tkS (m % 2) (tk m) (mgS kn sz tk m) k).2.2 = 6 := by
  intro ms
  induction ms with
  | zero => intro _ m hm; exact absurd hm (Nat.not_lt_zero m)
  | succ n ih =>
    intro e m hm
    have e : (if stsB (n % 2) (tkS (n % 2) (tk n) (mgS kn sz tk n) (sz n)).2.2 then min (tkS (n % 2) (tk n) (mgS kn sz tk n) (sz n)).1 5 else (tkS (n % 2) (tk n) (mgS kn sz tk n) (sz n)).1) = 6 := e
    have e2 : (tkS (n % 2) (tk n) (mgS kn sz tk n) (sz n)).1 = 6 := by
      split at e
      · have := Nat.min_le_right (tkS (n % 2) (tk n) (mgS kn sz tk n) (sz n)).1 5; omega
      · exact e
    have h1 := tkS_1 (n % 2) (tk n) (mgS kn sz tk n) (sz n) e2 (mgS_ok ht n).1
    rcases Nat.lt_or_ge m n with h9 | h9
    · exact ih h1.1 m h9
    · have : m = n := by omega
      subst this
      exact h1.2
/-- no fault: no message is empty, no token is at fault -/
theorem isF_0 {kn : Nat → Bool} {ms : Nat} {sz : Nat → Nat} {tk : Nat → Nat → Nat} (h : isF kn ms sz tk 0) (ht : ∀ m k, tk m k ≤ 5) : 0 < ms ∧ (∀ m, m < ms → 0 < sz m) ∧ ∀ m, m < ms → ∀ k, k < sz m → fAt (tk m k) (m % 2) (tkS (m % 2) (tk m) (mgS kn sz tk m) k).2.1 (tkS (m % 2) (tk m) (mgS kn sz tk m) k).2.2 = 6 := by
  rcases h with h | h
  · exact absurd h.2 (by decide)
  · have h2 := mgS_2 (kn := kn) (sz := sz) (tk := tk) ms
    have h6 : (mgS kn sz tk ms).1 = 6 := by
      have e := h.2
      unfold lowF at e
      split at e
      · assumption
      · omega
    refine ⟨Nat.pos_of_ne_zero (fun e => h.1 (Or.inl e)), fun m hm => Nat.pos_of_ne_zero (fun e => h.1 (Or.inr ⟨m, hm, e⟩)), mgS_6 ht ms h6⟩
theorem kb_16 {kn : Nat → Bool} {sz : Nat → Nat} {tk : Nat → Nat → Nat} (ht : ∀ m k, tk m k ≤ 5) (m k : Nat) : (tkS (m % 2) (tk m) (mgS kn sz tk m) k).2.1 < 16 := (tkS_ok (Nat.mod_lt _ (by decide)) (ht m) (mgS_ok ht m) k).2.1
theorem nb_stp {q : jS} {h t i : Nat} (hq : q.2.1 < 16) (hh : h < 2) (hi : i < 4) : nbt (stp h t q).2.1 i = if t ≤ 1 then (nbt q.2.1 i || decide (i = 2 * t + h)) else nbt q.2.1 i := by
  show nbt (if t ≤ 1 then _ else _) i = _
  split
  · exact nb_or16 q.2.1 hq (2 * t + h) (by omega) i hi
  · rfl
/-- e and s are sent at most once in a message -/
theorem lnK_80 {kn : Nat → Bool} {ms : Nat} {sz : Nat → Nat} {tk : Nat → Nat → Nat} (h : isF kn ms sz tk 0) (ht : ∀ m k, tk m k ≤ 5) (m : Nat) (hm : m < ms) : lnK (tk m) (sz m) ≤ 80 := by
  have h0 := (isF_0 h ht).2.2 m hm
  have hh : m % 2 < 2 := Nat.mod_lt _ (by decide)
  have key : ∀ k, k ≤ sz m → lnK (tk m) k ≤ (if nbt (tkS (m % 2) (tk m) (mgS kn sz tk m) k).2.1 (m % 2) then 32 else 0) + (if nbt (tkS (m % 2) (tk m) (mgS kn sz tk m) k).2.1 (2 + m % 2) then 48 else 0) := by
    intro k
    induction k with
    | zero => intro _; exact Nat.zero_le _
    | succ k ih =>
      intro hk
      have i1 := ih (by omega)
      have i2 := h0 k (by omega)
      have hq := kb_16 (kn := kn) (sz := sz) ht m k
      have s0 := nb_stp (h := m % 2) (t := tk m k) (i := m % 2) hq hh (by omega)
      have s1 := nb_stp (h := m % 2) (t := tk m k) (i := 2 + m % 2) hq hh (by omega)
      show lnK (tk m) k + lnT (tk m k) ≤ (if nbt (stp (m % 2) (tk m k) (tkS (m % 2) (tk m) (mgS kn sz tk m) k)).2.1 (m % 2) then 32 else 0) + (if nbt (stp (m % 2) (tk m k) (tkS (m % 2) (tk m) (mgS kn sz tk m) k)).2.1 (2 + m % 2) then 48 else 0)
      rw [s0, s1]
      generalize (tkS (m % 2) (tk m) (mgS kn sz tk m) k) = q at *
      rcases (show tk m k = 0 ∨ tk m k = 1 ∨ 2 ≤ tk m k by omega) with e | e | e
      · rw [e] at i2 ⊢
        have b0 : nbt q.2.1 (m % 2) = false := by
          unfold fAt at i2
          rw [if_pos (by decide), show 2 * 0 + m % 2 = m % 2 by omega] at i2
          cases hb : nbt q.2.1 (m % 2) with
          | false => rfl
          | true => rw [hb] at i2; exact absurd i2 (by decide)
        rw [b0] at i1 ⊢
        have d1 : decide (m % 2 = 2 * 0 + m % 2) = true := decide_eq_true (by omega)
        have d2 : decide (2 + m % 2 = 2 * 0 + m % 2) = false := decide_eq_false (by omega)
        rw [d1, d2]
        simp only [Nat.zero_le, if_true, Bool.or_true, Bool.or_false] at i1 ⊢
        show lnK (tk m) k + 32 ≤ _
        simp at i1
        omega
      · rw [e] at i2 ⊢
        have b0 : nbt q.2.1 (2 + m % 2) = false := by
          unfold fAt at i2
          rw [if_pos (by decide), show 2 * 1 + m % 2 = 2 + m % 2 by omega] at i2
          cases hb : nbt q.2.1 (2 + m % 2) with
          | false => rfl
          | true => rw [hb] at i2; exact absurd i2 (by decide)
        rw [b0] at i1 ⊢
        have d1 : decide (m % 2 = 2 * 1 + m % 2) = false := decide_eq_false (by omega)
        have d2 : decide (2 + m % 2 = 2 * 1 + m % 2) = true := decide_eq_true (by omega)
        rw [d1, d2]
        simp only [Nat.le_refl, if_true, Bool.or_true, Bool.or_false] at i1 ⊢
        show lnK (tk m) k + 48 ≤ _
        simp at i1
        omega
      · simp only [if_neg (show ¬ tk m k ≤ 1 by omega)]
        have : lnT (tk m k) = 0 := by unfold lnT; rw [if_neg (by omega), if_neg (by omega)]
        omega
  have := key (sz m) (Nat.le_refl _)
  have a1 : ∀ b : Bool, (if b = true then 32 else 0) ≤ 32 := by decide
  have a2 : ∀ b : Bool, (if b = true then 48 else 0) ≤ 48 := by decide
  have := a1 (nbt (tkS (m % 2) (tk m) (mgS kn sz tk m) (sz m)).2.1 (m % 2))
  have := a2 (nbt (tkS (m % 2) (tk m) (mgS kn sz tk m) (sz m)).2.1 (2 + m % 2))
  omega
/-- whose s a key bit is: known ahead, or sent -/
theorem nb_tkS {tk : Nat → Nat} {q : jS} {h g : Nat} (hq : okJ q) (hh : h < 2) (hg : g < 2) (ht : ∀ k, tk k ≤ 5) : ∀ k, nbt (tkS h tk q k).2.1 (2 + g) = true → nbt q.2.1 (2 + g) = true ∨ (h = g ∧ ∃ i, i < k ∧ tk i = 1) := by
  intro k
  induction k with
  | zero => intro e; exact Or.inl e
  | succ k ih =>
    intro e
    have e : nbt (stp h (tk k) (tkS h tk q k)).2.1 (2 + g) = true := e
    rw [nb_stp (tkS_ok hh ht hq k).2.1 hh (by omega)] at e
    have go : nbt (tkS h tk q k).2.1 (2 + g) = true → nbt q.2.1 (2 + g) = true ∨ (h = g ∧ ∃ i, i < k + 1 ∧ tk i = 1) := fun e => (ih e).imp id (fun ⟨a, i, b, c⟩ => ⟨a, i, by omega, c⟩)
    split at e
    · rcases Bool.or_eq_true_iff.mp e with e | e
      · exact go e
      · have e := of_decide_eq_true e
        exact Or.inr ⟨by omega, k, by omega, by omega⟩
    · exact go e
theorem nb_mgS {kn : Nat → Bool} {sz : Nat → Nat} {tk : Nat → Nat → Nat} {g : Nat} (hg : g < 2) (ht : ∀ m k, tk m k ≤ 5) : ∀ m, nbt (mgS kn sz tk m).2.1 (2 + g) = true → kn g = true ∨ ∃ n i, n < m ∧ n % 2 = g ∧ i < sz n ∧ tk n i = 1 := by
  intro m
  induction m with
  | zero =>
    intro e
    left
    have : ∀ a b : Bool, ∀ g, g < 2 → nbt ((if a then 4 else 0) ||| (if b then 8 else 0)) (2 + g) = true → (if g = 0 then a else b) = true := by decide
    have h1 := this (kn 0) (kn 1) g hg e
    rcases (show g = 0 ∨ g = 1 by omega) with rfl | rfl
    · exact h1
    · exact h1
  | succ m ih =>
    intro e
    have e : nbt (tkS (m % 2) (tk m) (mgS kn sz tk m) (sz m)).2.1 (2 + g) = true := e
    rcases nb_tkS (mgS_ok ht m) (Nat.mod_lt _ (by decide)) hg (ht m) (sz m) e with e | ⟨e, i, h1, h2⟩
    · rcases ih e with e | ⟨n, i, h1, h2⟩
      · exact Or.inl e
      · exact Or.inr ⟨n, i, by omega, h2⟩
    · exact Or.inr ⟨m, i, by omega, e, h1, h2⟩
/-- a DH of the other's s: that s was known ahead or is sent before -/
theorem dh_kn {kn : Nat → Bool} {ms : Nat} {sz : Nat → Nat} {tk : Nat → Nat → Nat} (h : isF kn ms sz tk 0) (ht : ∀ m k, tk m k ≤ 5) {m k ha : Nat} (hm : m < ms) (hk : k < sz m) (ha2 : ha < 2) (h2 : 2 ≤ tk m k) (hx : xEb (tk m k) ha = false) : kn (1 - ha) = true ∨ (∃ n i, n < m ∧ n % 2 = 1 - ha ∧ i < sz n ∧ tk n i = 1) ∨ (m % 2 = 1 - ha ∧ ∃ i, i < k ∧ tk m i = 1) := by
  have h6 := (isF_0 h ht).2.2 m hm k hk
  have hq := kb_16 (kn := kn) (sz := sz) ht m k
  have hb : nbt (tkS (m % 2) (tk m) (mgS kn sz tk m) k).2.1 (2 + (1 - ha)) = true := by
    generalize (tkS (m % 2) (tk m) (mgS kn sz tk m) k) = q at *
    have hn : q.2.1 &&& ndT (tk m k) = ndT (tk m k) := by
      unfold fAt at h6
      rw [if_neg (by omega)] at h6
      split at h6
      · assumption
      · exact absurd h6 (by decide)
    have h5 := ht m k
    rcases (show ha = 0 ∨ ha = 1 by omega) with rfl | rfl
    · have : tk m k = 3 ∨ tk m k = 5 := by
        unfold xEb at hx
        rw [if_pos rfl] at hx
        have := of_decide_eq_false hx
        omega
      exact nd_b3 _ hq (this.imp (fun e => by rw [e] at hn; exact hn) (fun e => by rw [e] at hn; exact hn))
    · have : tk m k = 4 ∨ tk m k = 5 := by
        unfold xEb at hx
        rw [if_neg (by decide)] at hx
        have := of_decide_eq_false hx
        omega
      exact nd_b2 _ hq (this.imp (fun e => by rw [e] at hn; exact hn) (fun e => by rw [e] at hn; exact hn))
  rcases nb_tkS (mgS_ok ht m) (Nat.mod_lt _ (by decide)) (by omega) (ht m) k hb with e | e
  · exact (nb_mgS (by omega) ht m e).imp id Or.inl
  · exact Or.inr (Or.inr e)
/-! what a talk keeps -/
theorem rdT_9 {sec : Nat → Int32} {ha : Nat} {lt : Nat → Int32} {ln t : Nat} {p p' : sgT × Nat} (h : rdT sec ha lt ln t p = some p') : (t = 1 → p'.1 7 9 = nI 1) ∧ (p.1 7 9 = nI 1 → p'.1 7 9 = nI 1) := by
  rcases rdT_i h with ⟨e, _, rfl⟩ | ⟨e, _, rfl⟩ | ⟨e, e2, rfl⟩
  · exact ⟨fun h => by omega, fun h => h⟩
  · exact ⟨fun _ => rfl, fun _ => rfl⟩
  · exact ⟨fun h => by omega, fun h => h⟩
theorem rdK_9 {sec : Nat → Int32} {ha : Nat} {lt : Nat → Int32} {ln : Nat} {tk : Nat → Nat} {σ : sgT} : ∀ (k : Nat) (p : sgT × Nat), rdK sec ha lt ln tk σ k = some p → (σ 7 9 = nI 1 ∨ ∃ i, i < k ∧ tk i = 1) → p.1 7 9 = nI 1
  | 0, p, h, g => by
    have h : some (σ, 0) = some p := h
    cases h
    rcases g with g | ⟨i, hi, _⟩
    · exact g
    · exact absurd hi (Nat.not_lt_zero i)
  | k + 1, p, h, g => by
    obtain ⟨p0, h0, h1⟩ := rdK_i h
    have h9 := rdT_9 h1
    by_cases ht : tk k = 1
    · exact h9.1 ht
    · refine h9.2 (rdK_9 k p0 h0 (g.imp id (fun ⟨i, a, b⟩ => ⟨i, ?_, b⟩)))
      have : i ≠ k := fun e => ht (e ▸ b)
      omega
theorem rdK_le {sec : Nat → Int32} {ha : Nat} {lt : Nat → Int32} {ln : Nat} {tk : Nat → Nat} {σ : sgT} : ∀ (k : Nat) (p : sgT × Nat), rdK sec ha lt ln tk σ k = some p → p.2 ≤ ln
  | 0, p, h => by
    have h : some (σ, 0) = some p := h
    cases h
    exact Nat.zero_le _
  | k + 1, p, h => by
    obtain ⟨p0, h0, h1⟩ := rdK_i h
    have := rdK_le k p0 h0
    rcases rdT_i h1 with ⟨_, e, rfl⟩ | ⟨_, e, rfl⟩ | ⟨_, _, rfl⟩
    · exact e
    · exact e
    · exact this
theorem rdE_i {ha ms nx : Nat} {lt : Nat → Int32} {ln : Nat} {p : sgT × Nat} {M : sdP} (h : rdE ha ms nx lt ln p = some M) : (hkS p.1 = true → p.2 + 16 ≤ ln) ∧ opnO p.1 (fun j => lt (p.2 + j)) (ln - p.2) = true ∧ M = (opZ ha ms nx (opR p.1 (fun j => lt (p.2 + j)) (ln - p.2)), opnF p.1 (fun j => lt (p.2 + j)), opN (hkS p.1) (ln - p.2)) := by
  unfold rdE at h
  split at h
  · rename_i h1; cases h; exact ⟨h1.1, h1.2, rfl⟩
  · cases h
theorem rdM_i {sec : Nat → Int32} {ha ms nx : Nat} {lt : Nat → Int32} {ln n : Nat} {tk : Nat → Nat} {σ : sgT} {M : sdP} (h : rdM sec ha ms nx tk n lt ln σ = some M) : ∃ p, rdK sec ha lt ln tk σ n = some p ∧ rdE ha ms nx lt ln p = some M := by
  unfold rdM at h
  cases hk : rdK sec ha lt ln tk σ n with
  | none => rw [hk] at h; cases h
  | some p => rw [hk] at h; exact ⟨p, rfl, h⟩
/-- a short letter is refused -/
theorem rdM_sh {sec : Nat → Int32} {ha ms nx : Nat} {lt : Nat → Int32} {ln n : Nat} {tk : Nat → Nat} {σ : sgT} (h : ln < lsO (lsK (hkS σ) tk n)) : rdM sec ha ms nx tk n lt ln σ = none := by
  cases hr : rdM sec ha ms nx tk n lt ln σ with
  | none => rfl
  | some M =>
    exfalso
    obtain ⟨p, h1, h2⟩ := rdM_i hr
    have h3 := rdE_i h2
    have h4 := rdK_le n p h1
    rw [rdK_ls n p h1] at h
    unfold lsO at h
    simp only at h
    split at h
    · rename_i hk; have := h3.1 hk; omega
    · omega
theorem opZ_13 {ha ms nx : Nat} {σ : sgT} : opZ ha ms nx σ 7 13 = nI (nx + 1) := by
  unfold opZ; split
  · rfl
  · rfl
theorem opZ_9 {ha ms nx : Nat} {σ : sgT} : opZ ha ms nx σ 7 9 = σ 7 9 := by
  unfold opZ; split
  · rfl
  · rfl
theorem opZ_hk {ha ms nx : Nat} {σ : sgT} (h : ms ≤ nx + 1) : hkS (opZ ha ms nx σ) = true := by
  unfold opZ; rw [if_neg (by omega)]; exact decide_eq_true rfl
theorem rdM_k {sec : Nat → Int32} {ha ms nx : Nat} {lt : Nat → Int32} {ln n : Nat} {tk : Nat → Nat} {σ : sgT} {M : sdP} (h : rdM sec ha ms nx tk n lt ln σ = some M) (hb : bS σ) (hl : ∀ j, j < ln → byt (lt j) < 256) : bS M.1 ∧ M.1 7 13 = nI (nx + 1) ∧ (ms ≤ nx + 1 → hkS M.1 = true) ∧ ((σ 7 9 = nI 1 ∨ ∃ i, i < n ∧ tk i = 1) → M.1 7 9 = nI 1) ∧ M.2.2 ≤ ln := by
  obtain ⟨p, h1, h2⟩ := rdM_i h
  have h3 := rdE_i h2
  have hp := rdK_b hb hl n p h1
  rw [h3.2.2]
  refine ⟨(hp.r _ _).z _ _ _, opZ_13, opZ_hk, fun hg => ?_, ?_⟩
  · show opZ ha ms nx _ 7 9 = _
    rw [opZ_9, opR_7 (by decide)]; exact rdK_9 n p h1 hg
  · show opN _ _ ≤ _
    unfold opN; split <;> omega
theorem sdM_k {sd : Int32} {sec pub : Nat → Int32} {ha ms nx : Nat} {tk : Nat → Nat} {n : Nat} {tp : Nat → Int32} {tn : Nat} {σ : sgT} (hb : bS σ) (hp : ∀ j, j < 32 → byt (pub j) < 256) (ht : ∀ j, j < tn → byt (tp j) < 256) (hn : lnK tk n ≤ 80) (h64 : tn ≤ 64) : bS (sdM sd sec pub ha ms nx tk n tp tn σ).1 ∧ (sdM sd sec pub ha ms nx tk n tp tn σ).1 7 13 = nI (nx + 1) ∧ (ms ≤ nx + 1 → hkS (sdM sd sec pub ha ms nx tk n tp tn σ).1 = true) ∧ (sdM sd sec pub ha ms nx tk n tp tn σ).1 7 9 = σ 7 9 ∧ (sdM sd sec pub ha ms nx tk n tp tn σ).2.2 ≤ 160 ∧ ∀ j, j < (sdM sd sec pub ha ms nx tk n tp tn σ).2.2 → byt ((sdM sd sec pub ha ms nx tk n tp tn σ).2.1 j) < 256 := by
  have h1 := sdK_b (sd := sd) (sec := sec) (pub := pub) (ha := ha) (tk := tk) hb n
  have h2 := sdK_len (sd := sd) (sec := sec) (pub := pub) (ha := ha) (tk := tk) (σ := σ) n
  have h3 := sdK_lb (sd := sd) (sec := sec) (ha := ha) (tk := tk) (σ := σ) hp n
  have h4 := sdK_7 (sd := sd) (sec := sec) (pub := pub) (ha := ha) (tk := tk) (σ := σ) (f := 9) (by simp) n
  unfold sdM
  refine ⟨(h1.s _ _).z _ _ _, opZ_13, opZ_hk, ?_, ?_, ?_⟩
  · show opZ ha ms nx _ 7 9 = _
    rw [opZ_9, opS_7 (by decide)]; exact h4
  · show _ + slN _ _ ≤ 160
    have := slN_le (hkS (sdK sd sec pub ha tk σ n).1) tn
    omega
  · exact lay_b h3 (selF_b ht)
theorem bS.f {σ : sgT} (h : bS σ) {i : Nat} (hi : 10 ≤ i) (v : Int32) : bS (sFl σ i v) := by
  refine ⟨h.1, h.2.1, h.2.2.1, fun f h1 h2 => ?_⟩
  rw [sFl_s]; unfold upd; rw [if_neg (by omega)]; exact h.2.2.2 f h1 h2
theorem bS_0 : bS sg0 := ⟨fun _ _ => byt_n (n := 0) (by decide), fun _ _ => byt_n (n := 0) (by decide), fun _ _ => byt_n (n := 0) (by decide), fun _ _ _ => Or.inl rfl⟩
theorem pubV_b (sv : Int32) (j : Nat) : byt (pubV sv j) < 256 := by
  unfold pubV; split
  · exact byt_n (by decide)
  · exact byt_pub _ _
theorem dnF_b {σ : sgT} {tp : Nat → Int32} {tn : Nat} (ht : ∀ j, j < tn → byt (tp j) < 256) (j : Nat) : byt (dnF σ tp tn j) < 256 := byt_enc ht j
