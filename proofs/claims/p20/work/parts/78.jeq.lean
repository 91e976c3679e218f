/-! ===== the model's judgement is the class' ===== -/
def lowN (a b c d : Bool) : Nat := if a then 2 else if b then 3 else if c then 4 else if d then 5 else 6
def ftM (h : Nat) (tk : Nat → Nat) (q : jS) (F : Nat → Bool) : Nat → (Nat → Bool)
  | 0 => F
  | k + 1 => jF h (tk k) (tkS h tk q k).2.1 (tkS h tk q k).2.2 (ftM h tk q F k)
def fmM (kn : Nat → Bool) (ms : Nat) (sz : Nat → Nat) (tk : Nat → Nat → Nat) : Nat → (Nat → Bool)
  | 0 => fun f => if f = 1 then decide (ms = 0) else false
  | m + 1 => fl5 (m % 2) (tkS (m % 2) (tk m) (mgS kn sz tk m) (sz m)).2.2 (ftM (m % 2) (tk m) (mgS kn sz tk m) (upN (fmM kn ms sz tk m) 1 (fmM kn ms sz tk m 1 || decide (sz m = 0))) (sz m))
/-- what ties the two judgements -/
def jK (q : jS) (F : Nat → Bool) : Prop := okJ q ∧ (∃ g : Bool, q.1 = lowN (F 2) (F 3) (F 4) g ∧ (g = true → F 5 = true) ∧ (F 5 = true → g = true ∨ F 2 = true ∨ F 3 = true)) ∧ (F 3 = true ∨ ∀ t, 2 ≤ t → t < 6 → nbt q.2.2 t = true → q.2.1 &&& ndT t = ndT t)
theorem nd_or : ∀ k, k < 16 → ∀ j, j < 4 → ∀ t, t < 6 → k &&& ndT t = ndT t → (k ||| 2 ^ j) &&& ndT t = ndT t := by decide +kernel
theorem nd_b2 : ∀ k, k < 16 → (k &&& ndT 4 = ndT 4 ∨ k &&& ndT 5 = ndT 5) → nbt k 2 = true := by decide +kernel
theorem nd_b3 : ∀ k, k < 16 → (k &&& ndT 3 = ndT 3 ∨ k &&& ndT 5 = ndT 5) → nbt k 3 = true := by decide +kernel
theorem sts_s {h kb dn : Nat} (hh : h < 2) (hk : kb < 16) (hn : ∀ t, 2 ≤ t → t < 6 → nbt dn t = true → kb &&& ndT t = ndT t) (hs : stsB h dn = true) : nbt kb (2 + h) = true := by
  unfold stsB at hs
  rcases (show h = 0 ∨ h = 1 by omega) with rfl | rfl
  · rw [if_pos rfl, if_pos rfl] at hs
    refine nd_b2 kb hk ?_
    rcases Bool.or_eq_true_iff.mp hs with g | g
    · exact Or.inl (hn 4 (by decide) (by decide) (Bool.and_eq_true_iff.mp g).1)
    · exact Or.inr (hn 5 (by decide) (by decide) (Bool.and_eq_true_iff.mp g).1)
  · rw [if_neg (by decide), if_neg (by decide)] at hs
    refine nd_b3 kb hk ?_
    rcases Bool.or_eq_true_iff.mp hs with g | g
    · exact Or.inl (hn 3 (by decide) (by decide) (Bool.and_eq_true_iff.mp g).1)
    · exact Or.inr (hn 5 (by decide) (by decide) (Bool.and_eq_true_iff.mp g).1)
theorem jK.go {h t : Nat} {q : jS} {F : Nat → Bool} (j : jK q F) (hh : h < 2) (ht : t ≤ 5) : jK (stp h t q) (jF h t q.2.1 q.2.2 F) := by
  obtain ⟨ok, ⟨g, g1, g2, g3⟩, nd⟩ := j
  refine ⟨stp_ok hh ht ok, ?_, ?_⟩
  · by_cases h0 : t = 0
    · subst h0
      refine ⟨g, ?_, ?_, ?_⟩
      · show min q.1 (fAt 0 h q.2.1 q.2.2) = _
        rw [g1]
        unfold fAt jF
        rw [if_pos (by omega), if_pos rfl, show 2 * 0 + h = h by omega]
        simp only [upN, if_true, show (3 : Nat) ≠ 2 by decide, show (4 : Nat) ≠ 2 by decide, if_false]
        cases nbt q.2.1 h <;> cases F 2 <;> cases F 3 <;> cases F 4 <;> cases g <;> decide
      · unfold jF; rw [if_pos rfl]; simpa [upN] using g2
      · unfold jF; rw [if_pos rfl]
        simp only [upN, if_true, show (5 : Nat) ≠ 2 by decide, show (3 : Nat) ≠ 2 by decide, if_false]
        intro h5
        rcases g3 h5 with x | x | x
        · exact Or.inl x
        · exact Or.inr (Or.inl (by rw [x]; rfl))
        · exact Or.inr (Or.inr x)
    · by_cases h1 : t = 1
      · subst h1
        have e21 : 2 * 1 + h = 2 + h := by omega
        refine ⟨g, ?_, ?_, ?_⟩
        · show min q.1 (if nbt q.2.1 (2 * 1 + h) then 2 else 6) = lowN (F 2 || nbt q.2.1 (2 + h)) (F 3) (F 4) g
          rw [g1, e21]
          cases nbt q.2.1 (2 + h) <;> cases F 2 <;> cases F 3 <;> cases F 4 <;> cases g <;> decide
        · show g = true → (F 5 || stsB h q.2.2) = true
          intro x; rw [g2 x]; rfl
        · show (F 5 || stsB h q.2.2) = true → g = true ∨ (F 2 || nbt q.2.1 (2 + h)) = true ∨ F 3 = true
          intro h5
          rcases Bool.or_eq_true_iff.mp h5 with x | x
          · rcases g3 x with y | y | y
            · exact Or.inl y
            · exact Or.inr (Or.inl (by rw [y]; rfl))
            · exact Or.inr (Or.inr y)
          · rcases nd with y | y
            · exact Or.inr (Or.inr y)
            · exact Or.inr (Or.inl (by rw [sts_s hh ok.2.1 y x]; exact Bool.or_true _))
      · refine ⟨g, ?_, ?_, ?_⟩
        · show min q.1 (fAt t h q.2.1 q.2.2) = _
          rw [g1]
          unfold fAt jF
          rw [if_neg (by omega), if_neg h0, if_neg h1]
          simp only [upN, if_true, show (2 : Nat) ≠ 4 by decide, show (2 : Nat) ≠ 3 by decide, show (3 : Nat) ≠ 4 by decide, if_false]
          by_cases hn : q.2.1 &&& ndT t = ndT t
          · rw [if_pos hn, decide_eq_true hn]
            cases nbt q.2.2 t <;> cases F 2 <;> cases F 3 <;> cases F 4 <;> cases g <;> decide
          · rw [if_neg hn, decide_eq_false hn]
            cases nbt q.2.2 t <;> cases F 2 <;> cases F 3 <;> cases F 4 <;> cases g <;> decide
        · unfold jF; rw [if_neg h0, if_neg h1]
          simp only [upN, show (5 : Nat) ≠ 4 by decide, show (5 : Nat) ≠ 3 by decide, if_false]
          exact g2
        · unfold jF; rw [if_neg h0, if_neg h1]
          simp only [upN, if_true, show (5 : Nat) ≠ 4 by decide, show (5 : Nat) ≠ 3 by decide, show (2 : Nat) ≠ 4 by decide, show (2 : Nat) ≠ 3 by decide, show (3 : Nat) ≠ 4 by decide, if_false]
          intro h5
          rcases g3 h5 with x | x | x
          · exact Or.inl x
          · exact Or.inr (Or.inl x)
          · exact Or.inr (Or.inr (by rw [x]; rfl))
  · by_cases h01 : t ≤ 1
    · have e3 : jF h t q.2.1 q.2.2 F 3 = F 3 := by
        unfold jF fl5
        rcases (show t = 0 ∨ t = 1 by omega) with rfl | rfl <;> simp [upN]
      rw [e3]
      rcases nd with x | x
      · exact Or.inl x
      · refine Or.inr (fun u u1 u2 u3 => ?_)
        have e1 : (stp h t q).2.1 = q.2.1 ||| 2 ^ (2 * t + h) := if_pos h01
        have e2 : (stp h t q).2.2 = q.2.2 := if_pos h01
        rw [e2] at u3
        rw [e1]
        exact nd_or _ ok.2.1 _ (by omega) u u2 (x u u1 u2 u3)
    · have e3 : jF h t q.2.1 q.2.2 F 3 = (F 3 || !decide (q.2.1 &&& ndT t = ndT t)) := by
        unfold jF
        rw [if_neg (by omega), if_neg (by omega)]
        simp [upN]
      rw [e3]
      have e1 : (stp h t q).2.1 = q.2.1 := if_neg h01
      have e2 : (stp h t q).2.2 = q.2.2 ||| 2 ^ t := if_neg h01
      rw [e1, e2]
      rcases nd with x | x
      · exact Or.inl (by rw [x]; rfl)
      · by_cases hn : q.2.1 &&& ndT t = ndT t
        · refine Or.inr (fun u u1 u2 u3 => ?_)
          rw [nb_or64 _ ok.2.2 t (by omega) u u2] at u3
          rcases Bool.or_eq_true_iff.mp u3 with y | y
          · exact x u u1 u2 y
          · rw [of_decide_eq_true y]; exact hn
        · exact Or.inl (by rw [decide_eq_false hn]; simp)
theorem jK.fin {h : Nat} {q : jS} {F : Nat → Bool} (j : jK q F) : jK (endS h q) (fl5 h q.2.2 F) := by
  obtain ⟨ok, ⟨g, g1, g2, g3⟩, nd⟩ := j
  have e2 : fl5 h q.2.2 F 2 = F 2 := rfl
  have e3 : fl5 h q.2.2 F 3 = F 3 := rfl
  have e4 : fl5 h q.2.2 F 4 = F 4 := rfl
  have e5 : fl5 h q.2.2 F 5 = (F 5 || stsB h q.2.2) := rfl
  refine ⟨endS_ok ok, ⟨g || stsB h q.2.2, ?_, ?_, ?_⟩, ?_⟩
  · show (if stsB h q.2.2 then min q.1 5 else q.1) = _
    rw [e2, e3, e4, g1]
    cases stsB h q.2.2 <;> cases F 2 <;> cases F 3 <;> cases F 4 <;> cases g <;> decide
  · rw [e5]
    intro x
    rcases Bool.or_eq_true_iff.mp x with y | y
    · rw [g2 y]; rfl
    · rw [y]; exact Bool.or_true _
  · rw [e2, e3, e5]
    intro x
    rcases Bool.or_eq_true_iff.mp x with y | y
    · rcases g3 y with w | w | w
      · exact Or.inl (by rw [w]; rfl)
      · exact Or.inr (Or.inl w)
      · exact Or.inr (Or.inr w)
    · exact Or.inl (by rw [y]; exact Bool.or_true _)
  · rw [e3]; exact nd
theorem jK.tks {h : Nat} {tk : Nat → Nat} {q : jS} {F : Nat → Bool} (j : jK q F) (hh : h < 2) (ht : ∀ k, tk k ≤ 5) (k : Nat) : jK (tkS h tk q k) (ftM h tk q F k) := by
  induction k with
  | zero => exact j
  | succ k ih => exact ih.go hh (ht k)
theorem jK.one {q : jS} {F : Nat → Bool} {b : Bool} (j : jK q F) : jK q (upN F 1 b) := j
theorem jK.mgs {kn : Nat → Bool} {ms : Nat} {sz : Nat → Nat} {tk : Nat → Nat → Nat} (ht : ∀ m k, tk m k ≤ 5) (m : Nat) : jK (mgS kn sz tk m) (fmM kn ms sz tk m) := by
  induction m with
  | zero => exact ⟨mgS_ok ht 0, ⟨false, rfl, (fun h => by cases h), fun h => by cases h⟩, Or.inr (fun t _ _ h => by
      have : nbt 0 t = false := by unfold nbt; simp
      rw [show (mgS kn sz tk 0).2.2 = 0 from rfl, this] at h; cases h)⟩
  | succ m ih => exact (ih.one.tks (by omega) (ht m) (sz m)).fin
theorem fl5_1 (h dn : Nat) (F : Nat → Bool) : fl5 h dn F 1 = F 1 := rfl
theorem jF_1 (h t kb dn : Nat) (F : Nat → Bool) : jF h t kb dn F 1 = F 1 := by
  unfold jF fl5; split
  · rfl
  · split <;> rfl
theorem ftM_1 (h : Nat) (tk : Nat → Nat) (q : jS) (F : Nat → Bool) (k : Nat) : ftM h tk q F k 1 = F 1 := by
  induction k with
  | zero => rfl
  | succ k ih => exact (jF_1 _ _ _ _ _).trans ih
theorem fmM_1 {kn : Nat → Bool} {ms : Nat} {sz : Nat → Nat} {tk : Nat → Nat → Nat} (m : Nat) : fmM kn ms sz tk m 1 = true ↔ (ms = 0 ∨ ∃ p, p < m ∧ sz p = 0) := by
  induction m with
  | zero => show decide (ms = 0) = true ↔ _; simp
  | succ m ih =>
    have e : fmM kn ms sz tk (m + 1) 1 = (fmM kn ms sz tk m 1 || decide (sz m = 0)) := by
      show fl5 _ _ _ 1 = _
      rw [fl5_1, ftM_1, upN_same]
    rw [e, Bool.or_eq_true_iff, ih, decide_eq_true_iff]
    constructor
    · rintro ((h | ⟨p, h1, h2⟩) | h)
      · exact Or.inl h
      · exact Or.inr ⟨p, by omega, h2⟩
      · exact Or.inr ⟨m, by omega, h⟩
    · rintro (h | ⟨p, h1, h2⟩)
      · exact Or.inl (Or.inl h)
      · rcases Nat.lt_or_ge p m with g | g
        · exact Or.inl (Or.inr ⟨p, g, h2⟩)
        · exact Or.inr (by rw [show m = p by omega]; exact h2)
/-- the first of the flags -/
theorem isF_of {kn : Nat → Bool} {ms f : Nat} {sz : Nat → Nat} {tk : Nat → Nat → Nat} (ht : ∀ m k, tk m k ≤ 5) (hf : (f = 0 ∧ ∀ g, 1 ≤ g → g < 6 → fmM kn ms sz tk ms g = false) ∨ (1 ≤ f ∧ f < 6 ∧ fmM kn ms sz tk ms f = true ∧ ∀ g, 1 ≤ g → g < f → fmM kn ms sz tk ms g = false)) : isF kn ms sz tk f := by
  obtain ⟨-, ⟨g, g1, g2, g3⟩, -⟩ := jK.mgs (kn := kn) (ms := ms) (sz := sz) ht ms
  by_cases h1 : fmM kn ms sz tk ms 1 = true
  · refine Or.inl ⟨fmM_1 ms |>.mp h1, ?_⟩
    rcases hf with ⟨-, h⟩ | ⟨h2, h3, h4, h5⟩
    · rw [h 1 (by decide) (by decide)] at h1; cases h1
    · rcases Nat.lt_or_ge 1 f with h6 | h6
      · rw [h5 1 (by decide) h6] at h1; cases h1
      · omega
  · refine Or.inr ⟨fun h => h1 (fmM_1 ms |>.mpr h), ?_⟩
    rw [g1]
    rcases hf with ⟨rfl, h⟩ | ⟨h2, h3, h4, h5⟩
    · rw [h 2 (by decide) (by decide), h 3 (by decide) (by decide), h 4 (by decide) (by decide)]
      cases g with
      | false => rfl
      | true => have := g2 rfl; rw [h 5 (by decide) (by decide)] at this; cases this
    · rcases (show f = 1 ∨ f = 2 ∨ f = 3 ∨ f = 4 ∨ f = 5 by omega) with rfl | rfl | rfl | rfl | rfl
      · exact absurd h4 h1
      · rw [h4]; rfl
      · rw [h5 2 (by decide) (by decide), h4]; rfl
      · rw [h5 2 (by decide) (by decide), h5 3 (by decide) (by decide), h4]; rfl
      · rw [h5 2 (by decide) (by decide), h5 3 (by decide) (by decide), h5 4 (by decide) (by decide)]
        rcases g3 h4 with x | x | x
        · rw [x]; rfl
        · rw [h5 2 (by decide) (by decide)] at x; cases x
        · rw [h5 3 (by decide) (by decide)] at x; cases x
