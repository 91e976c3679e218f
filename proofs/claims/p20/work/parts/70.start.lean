/-! ===== the start: what the Statement gives ===== -/
theorem st_of {args : Array Value} {s : State} {tm : Term} {N : Nat} {f : Nat → Int32} (hN : N < 2 ^ 31) (harr : (Cond.arrayOf tm .int).before args s = true) (hlen : (Cond.eq (.length tm) (.int (Int32.ofNat N))).before args s = true) (hel : ∀ j, j < N → (Cond.eq (.elem tm (.int (Int32.ofNat j))) (.int (f j))).before args s = true) : ∃ (t : Nat) (cell : Cell), tm.eval args s none [] s = some (.ref t) ∧ s.heap[t]? = some cell ∧ s.isArrayOf cell .int ∧ cell.vm ≠ .unknown ∧ cell.slots.size = N ∧ ∀ j, j < N → cell.slots[j]? = some (.int (f j)) := by
  have hv := va_eqt hlen
  obtain ⟨t, cell, ht, hat, hv2⟩ := Term.length_spec hv
  obtain ⟨hcell, hkn, -, -⟩ := State.arrayAt?_spec hat
  obtain ⟨hof, -⟩ := Cond.arrayOf_spec harr ht hcell
  have hsz : cell.slots.size < 2 ^ 31 := by
    simp only [Term.eval, ht, hat, Option.bind_eq_bind, Option.bind_some] at hv
    by_cases hlt : cell.slots.size < 2147483648
    · exact hlt
    · simp [hlt] at hv
  have hsN : cell.slots.size = N := (nI_eq hsz hN).mp (Value.int.inj hv2).symm
  refine ⟨t, cell, ht, hcell, hof, hkn, hsN, fun j hj => ?_⟩
  obtain ⟨a, i, cell2, h1, h2, h3, h4, h5⟩ := Term.elem_spec (va_eqt (hel j hj))
  cases ht.symm.trans h1
  cases hat.symm.trans h3
  have hi : i = Int32.ofNat j := by
    have e : (Term.int (Int32.ofNat j)).eval args s none [] s = some (.int (Int32.ofNat j)) := rfl
    cases h2.symm.trans e
    rfl
  have hc : i.toNatClampNeg = j := by rw [hi]; exact Int32.toNatClampNeg_ofNat_of_lt (Nat.lt_trans hj hN)
  rw [hc] at h5
  exact h5
/-- what the static arrays hold, by number -/
def stV (q j : Nat) : Int32 := if q = 90 then ([0, 0, 3, 9, 6, 12] : List Int32).getD j 0 else if q = 91 then fSha j else if q = 92 then kSha j else if q = 93 then (if j = 0 then nI 9 else nI 0) else 0
def G0 (sa : Nat → Nat) : hG := (fun q => (xSt q).map (fun n => .inl (.int, n)), stV, fun _ _ => 0, fun _ _ => none, fun q => sa (q - 90))
theorem xSt_in {q n : Nat} (h : xSt q = some n) : (q = 90 ∧ n = 6) ∨ (q = 91 ∧ n = 8) ∨ (q = 92 ∧ n = 64) ∨ (q = 93 ∧ n = 32) ∨ (q = 94 ∧ n = 0) := by
  unfold xSt at h
  split at h <;> first | (cases h; simp; done) | cases h
theorem G0_HR {U : State} {D : va_G} {sa : Nat → Nat} {H : Heap} (h : ∀ q n, xSt q = some n → ∃ cell : Cell, H[sa (q - 90)]? = some cell ∧ U.isArrayOf cell .int ∧ cell.vm ≠ .unknown ∧ cell.slots.size = n ∧ ∀ j, j < n → cell.slots[j]? = some (.int (stV q j))) : HR U D (G0 sa) H := by
  have hs : ∀ q k, (G0 sa).1 q = some k → ∃ n, xSt q = some n ∧ k = .inl (.int, n) := by
    intro q k e
    have e : (xSt q).map (fun n => (.inl (.int, n) : hKd)) = some k := e
    cases hq : xSt q with
    | none => rw [hq] at e; cases e
    | some n => rw [hq] at e; cases e; exact ⟨n, rfl, rfl⟩
  refine ⟨fun q k e => ?_, fun i j hi hj he => ?_⟩
  · obtain ⟨n, hn, rfl⟩ := hs q k e
    obtain ⟨cell, h1, h2, h3, h4, h5⟩ := h q n hn
    exact ⟨cell, h1, h2, h3, h4, h5, fun C e => by cases e⟩
  · cases e1 : (G0 sa).1 i with
    | none => exact absurd e1 hi
    | some k1 =>
      cases e2 : (G0 sa).1 j with
      | none => exact absurd e2 hj
      | some k2 =>
        obtain ⟨n1, g1, -⟩ := hs i k1 e1
        obtain ⟨n2, g2, -⟩ := hs j k2 e2
        obtain ⟨c1, a1, -, -, a4, -⟩ := h i n1 g1
        obtain ⟨c2, b1, -, -, b4, -⟩ := h j n2 g2
        have he : sa (i - 90) = sa (j - 90) := he
        rw [he] at a1
        have ec : c1 = c2 := Option.some.inj (a1.symm.trans b1)
        rw [ec] at a4
        have : n1 = n2 := a4.symm.trans b4
        rcases xSt_in g1 with g | g | g | g | g <;> rcases xSt_in g2 with g' | g' | g' | g' | g' <;> omega
section ST
variable {s : State} {b : Nat}
theorem st_g (hts : ∀ w ∈ lw_tbl, w.before #[Value.ref b] s = true) : ∀ w ∈ lw_g, w.before #[Value.ref b] s = true := fun w hw => hts w (List.mem_filter.mp hw).1
theorem st_kn (hts : ∀ w ∈ lw_g, w.before #[Value.ref b] s = true) : ∀ (k : Nat) (w : vw_C), vwCl[k]? = some w → ∃ q : ClassId × (Nat → Nat), u_Kn s w.1 w.2.1 w.2.2 q.1 q.2 := by
  have go : ∀ {ci : Nat} {w : vw_C} {n : Nat}, hCl ci w → Cond.instantiable w.1 n ∈ lw_g → ∃ q : ClassId × (Nat → Nat), u_Kn s w.1 w.2.1 w.2.2 q.1 q.2 := by
    intro ci w n h1 h2
    obtain ⟨cC, iS, h⟩ := u_known hts h1.2.1 (hts _ h2)
    exact ⟨(cC, iS), h⟩
  intro k w h
  match k, h with
  | 0, h => cases h; exact go hc_X0 it_X0
  | 1, h => cases h; exact go hc_X1 it_X1
  | 2, h => cases h; exact go hc_X2 it_X2
  | 3, h => cases h; exact go hc_X3 it_X3
  | 4, h => cases h; exact go hc_X4 it_X4
  | 5, h => cases h; exact go hc_X5 it_X5
  | 6, h => cases h; exact go hc_X6 it_X6
  | 7, h => cases h; exact go hc_X7 it_X7
  | 8, h => cases h; exact go hc_X8 it_X8
  | 9, h => cases h; exact go hc_X9 it_X9
  | 10, h => cases h; exact go hc_X10 it_X10
  | 11, h => cases h; exact go hc_X11 it_X11
  | k + 12, h => simp [vwCl] at h
theorem st_D (hts : ∀ w ∈ lw_g, w.before #[Value.ref b] s = true) : ∃ D : va_G, va_K D vwCl [] s := by
  have h : ∀ k : Nat, ∃ q : ClassId × (Nat → Nat), ∀ w, vwCl[k]? = some w → u_Kn s w.1 w.2.1 w.2.2 q.1 q.2 := by
    intro k
    cases e : vwCl[k]? with
    | none => exact ⟨(0, fun _ => 0), fun w h => by cases h⟩
    | some w =>
      obtain ⟨q, hq⟩ := st_kn hts k w e
      exact ⟨q, fun w' h => by cases h; exact hq⟩
  obtain ⟨f, hf⟩ := Classical.axiomOfChoice h
  exact ⟨(fun k => (f k).1, fun k => (f k).2), fun k w e => hf k w e, fun k q h => by simp at h⟩
end ST
set_option maxRecDepth 100000 in
set_option maxHeartbeats 4000000 in
theorem st_all {s : State} {b : Nat} (hts : ∀ w ∈ lw_tbl, w.before #[Value.ref b] s = true) (hgv : (Jvm.Cond.and given_1 narrow_1).before #[Value.ref b] s = true) : ∃ (D : va_G) (sa : Nat → Nat), hKs D s.heap.size sa s s.heap ∧ HR s D (G0 sa) s.heap := by
  have hs := flat_of_before _ hgv
  have hA : ∀ a : Nat, a < s.heap.size → ¬ (fun q => s.heap.size ≤ q) a := fun a h => Nat.not_le.mpr h
  obtain ⟨D, hK⟩ := st_D (st_g hts)
  obtain ⟨t0, c0, v0, p0⟩ := st_of (N := 6) (f := stV 90) (tm := .static "StepShake$Pattern" "NEEDS" "[I") (by decide) (hs _ (by decide +kernel)) (hs _ (by decide +kernel)) (fun j hj => hs _ ((by decide +kernel : ∀ j, j < 6 → Cond.eq (.elem (.static "StepShake$Pattern" "NEEDS" "[I") (.int (Int32.ofNat j))) (.int (stV 90 j)) ∈ flatC (Jvm.Cond.and given_1 narrow_1)) j hj))
  obtain ⟨t1, c1, v1, p1⟩ := st_of (N := 8) (f := stV 91) (tm := .static "StepShake$Sha" "FIRST" "[I") (by decide) (hs _ (by decide +kernel)) (hs _ (by decide +kernel)) (fun j hj => hs _ ((by decide +kernel : ∀ j, j < 8 → Cond.eq (.elem (.static "StepShake$Sha" "FIRST" "[I") (.int (Int32.ofNat j))) (.int (stV 91 j)) ∈ flatC (Jvm.Cond.and given_1 narrow_1)) j hj))
  obtain ⟨t2, c2, v2, p2⟩ := st_of (N := 64) (f := stV 92) (tm := .static "StepShake$Sha" "ROUND" "[I") (by decide) (hs _ (by decide +kernel)) (hs _ (by decide +kernel)) (fun j hj => hs _ ((by decide +kernel : ∀ j, j < 64 → Cond.eq (.elem (.static "StepShake$Sha" "ROUND" "[I") (.int (Int32.ofNat j))) (.int (stV 92 j)) ∈ flatC (Jvm.Cond.and given_1 narrow_1)) j hj))
  obtain ⟨t3, c3, v3, p3⟩ := st_of (N := 32) (f := stV 93) (tm := .static "StepShake$Curve" "BASE" "[I") (by decide) (hs _ (by decide +kernel)) (hs _ (by decide +kernel)) (fun j hj => hs _ ((by decide +kernel : ∀ j, j < 32 → Cond.eq (.elem (.static "StepShake$Curve" "BASE" "[I") (.int (Int32.ofNat j))) (.int (stV 93 j)) ∈ flatC (Jvm.Cond.and given_1 narrow_1)) j hj))
  obtain ⟨t4, c4, v4, p4⟩ := st_of (N := 0) (f := stV 94) (tm := .static "StepShake" "NOTHING" "[I") (by decide) (hs _ (by decide +kernel)) (hs _ (by decide +kernel)) (fun j hj => absurd hj (Nat.not_lt_zero j))
  obtain ⟨adK, adV, hS0, hSe⟩ := vk_Sof (N := 1) (tm := fun _ => .string "StepShake$Talk" 107) (len := [18]) (byt := [hNm]) (args := #[Value.ref b]) (s := s) (A := fun q => s.heap.size ≤ q) (fun i hi => by rw [show i = 0 by omega]; decide) (fun i hi => hs _ (by decide +kernel)) (fun i hi => hs _ (by decide +kernel)) (fun i hi => hs _ (by decide +kernel)) (fun i hi => by rw [show i = 0 by omega]; exact hs _ (by decide +kernel)) (fun i hi j hj => by
      rw [show i = 0 by omega] at hj ⊢
      exact hs _ ((by decide +kernel : ∀ j, j < 18 → Cond.eq (.elem (.field (.string "StepShake$Talk" 107) "java/lang/String" "value" "[B") (.int (Int32.ofNat j))) (.int (hNm.getD j 0)) ∈ flatC (Jvm.Cond.and given_1 narrow_1)) j hj)) (fun i j hi hj h => absurd (show i = j by omega) h) hA
  refine ⟨D, fun k => if k = 0 then t0 else if k = 1 then t1 else if k = 2 then t2 else if k = 3 then t3 else if k = 4 then t4 else if k = 5 then adK 0 else adV 0, ⟨hK, fun k q e => ?_, fun w hw => ?_, fun ty hty => ?_, ?_⟩, ?_⟩
  · match k, e with
    | 0, e => cases e; exact va_Zref (hts _ (by decide +kernel)) (hts _ (by decide +kernel)) v0 hA
    | 1, e => cases e; exact va_Zref (hts _ (by decide +kernel)) (hts _ (by decide +kernel)) v1 hA
    | 2, e => cases e; exact va_Zref (hts _ (by decide +kernel)) (hts _ (by decide +kernel)) v2 hA
    | 3, e => cases e; exact va_Zref (hts _ (by decide +kernel)) (hts _ (by decide +kernel)) v3 hA
    | 4, e => cases e; exact va_Zref (hts _ (by decide +kernel)) (hts _ (by decide +kernel)) v4 hA
    | k + 5, e => simp [hSt] at e
  · exact va_Nw.of (lw_isN_on (List.mem_filter.mp hw).2) (hts w (List.mem_append_right _ (List.mem_filter.mp hw).1))
  · exact hts (Cond.arrayOver ty) ((by decide +kernel : ∀ ty ∈ lw_ao, Cond.arrayOver ty ∈ lw_tbl) ty hty)
  · refine ⟨vk_R.of (hts _ (by decide +kernel)) (hSe 0 (by decide)), ⟨fun i hi => ?_, fun i j hi hj _ => by omega⟩, va_Zof (hts _ (by decide +kernel)) (hts _ (by decide +kernel)) (va_eqi (hs _ (by decide +kernel))) hA, va_Zqof (hts _ (by decide +kernel)) (hts _ (by decide +kernel)) (hs _ (by decide +kernel)) hA⟩
    have := hS0.1 0 (by decide)
    rw [show i = 0 by omega]
    exact this
  · refine G0_HR (fun q n hq => ?_)
    rcases xSt_in hq with ⟨rfl, rfl⟩ | ⟨rfl, rfl⟩ | ⟨rfl, rfl⟩ | ⟨rfl, rfl⟩ | ⟨rfl, rfl⟩
    · exact ⟨c0, p0⟩
    · exact ⟨c1, p1⟩
    · exact ⟨c2, p2⟩
    · exact ⟨c3, p3⟩
    · exact ⟨c4, p4⟩
