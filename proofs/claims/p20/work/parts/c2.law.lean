/-! ===== the law from its entry ===== -/
def frs (a0 : Nat) (sa : Nat → Nat) (T : Nat → Option hKd) (I : Nat → Nat → Int32) (L : Nat → Nat → Int64) (R : Nat → Nat → Option Nat) (A : Nat → Nat) : Prop := (isX T R A a0 ∧ (∀ k, k < 5 → sa k = A (90 + k)) ∧ stI I ∧ frX I) ∧ (isM T R A a0 ∧ frM I ∧ (∀ t, t < 8 → I 4 t = fSha t) ∧ (∀ t, t < 64 → I 5 t = kSha t) ∧ ∀ j, 0 < j → j < 32 → I 13 j = 0) ∧ cv4 R 124 125 126 127 ∧ fre 200 300 (T, I, L, R, A)
theorem frM.of {I J : Nat → Nat → Int32} (h : J 63 = I 63) (f : frM I) : frM J := by unfold frM; rw [h]; exact f
def xTK : List (Nat × hKd) := [(101, .inl (.object "StepShake$Pattern", 8)), (102, .inl (.object "StepShake$Side", 4)), (103, .inr 4), (104, .inl (.int, 64)), (105, .inr 4), (106, .inl (.int, 160)), (107, .inr 4), (108, .inl (.int, 160)), (109, .inr 9), (111, .inr 5), (112, .inl (.int, 8)), (113, .inl (.int, 64)), (114, .inr 2), (115, .inr 5), (116, .inl (.int, 8)), (117, .inl (.int, 64)), (118, .inl (.int, 32)), (119, .inl (.int, 32)), (120, .inl (.int, 33)), (121, .inr 1), (122, .inl (.int, 32)), (123, .inl (.long, 10)), (124, .inl (.long, 10)), (125, .inl (.long, 10)), (126, .inl (.long, 10)), (127, .inl (.long, 10)), (128, .inl (.long, 10)), (129, .inl (.long, 10)), (130, .inl (.long, 10)), (131, .inl (.long, 10)), (132, .inr 0), (133, .inl (.int, 16)), (134, .inl (.int, 16)), (135, .inl (.int, 16)), (136, .inl (.int, 32)), (137, .inr 8), (138, .inl (.long, 5)), (139, .inl (.long, 5)), (140, .inl (.long, 5)), (141, .inl (.int, 17)), (142, .inl (.int, 16)), (143, .inr 7), (144, .inl (.int, 32)), (145, .inl (.int, 32)), (146, .inl (.int, 32)), (147, .inl (.int, 32)), (148, .inl (.int, 32)), (149, .inl (.int, 32)), (150, .inl (.int, 32)), (151, .inl (.int, 32)), (152, .inl (.int, 32)), (153, .inr 4), (154, .inl (.int, 32)), (155, .inl (.int, 32))]
def xTR : List (Nat × Nat × Nat) := [(100, 0, 101), (100, 1, 102), (103, 0, 104), (100, 2, 103), (105, 0, 106), (100, 3, 105), (107, 0, 108), (100, 4, 107), (111, 0, 112), (111, 1, 113), (109, 0, 111), (115, 0, 116), (115, 1, 117), (114, 0, 115), (114, 1, 118), (114, 2, 119), (114, 3, 120), (109, 1, 114), (121, 0, 122), (121, 1, 123), (121, 2, 124), (121, 3, 125), (121, 4, 126), (121, 5, 127), (121, 6, 128), (121, 7, 129), (121, 8, 130), (121, 9, 131), (109, 2, 121), (132, 0, 133), (132, 1, 134), (132, 2, 135), (132, 3, 136), (137, 0, 138), (137, 1, 139), (137, 2, 140), (137, 3, 141), (137, 4, 142), (132, 4, 137), (109, 3, 132), (143, 0, 144), (143, 1, 145), (143, 2, 146), (143, 3, 147), (143, 4, 148), (143, 5, 149), (143, 6, 150), (109, 4, 143), (109, 5, 151), (109, 6, 152), (153, 0, 154), (109, 7, 153), (100, 5, 109), (100, 6, 155)]
theorem gNw_T {G : hG} {m a : Nat} {kd : hKd} : (gNw G m kd a).1 m = some kd := va_up_same _ _ _
theorem gNw_To {G : hG} {m a h : Nat} {kd : hKd} (hne : h ≠ m) : (gNw G m kd a).1 h = G.1 h := va_up_other _ _ hne
theorem gNw_I {G : hG} {m a : Nat} {kd : hKd} : (gNw G m kd a).2.1 m = fun _ => 0 := va_up_same _ _ _
theorem gNw_Io {G : hG} {m a h : Nat} {kd : hKd} (hne : h ≠ m) : (gNw G m kd a).2.1 h = G.2.1 h := va_up_other _ _ hne
theorem gNw_Ro {G : hG} {m a h : Nat} {kd : hKd} (hne : h ≠ m) : (gNw G m kd a).2.2.2.1 h = G.2.2.2.1 h := va_up_other _ _ hne
theorem gNw_A1 {G : hG} {m a : Nat} {kd : hKd} : (gNw G m kd a).2.2.2.2 m = a := va_up_same _ _ _
theorem gNw_A2 {G : hG} {m a h : Nat} {kd : hKd} (hne : h ≠ m) : (gNw G m kd a).2.2.2.2 h = G.2.2.2.2 h := va_up_other _ _ hne
def hKe (a b : hKd) : Bool := match a, b with
  | .inl x, .inl y => decide (x = y) | .inr x, .inr y => decide (x = y) | _, _ => false
theorem hKe_eq {a b : hKd} (h : hKe a b = true) : a = b := by
  cases a <;> cases b <;> simp [hKe] at h <;> rw [h]
theorem hK_in {l : List (Nat × hKd)} {k : Nat} {t : hKd} (h : l.any (fun e => decide (e.1 = k) && hKe e.2 t) = true) : (k, t) ∈ l := by
  obtain ⟨e, he, h1⟩ := List.any_eq_true.mp h
  have h2 := Bool.and_eq_true_iff.mp h1
  have e1 : e = (k, t) := Prod.ext (of_decide_eq_true h2.1) (hKe_eq h2.2)
  rw [← e1]; exact he
theorem xK_in {k : Nat} {t : hKd} (h : xK k = some t) : k = 100 ∧ t = .inr 10 ∨ (k, t) ∈ xTK := by
  have hlt : k < 156 := by
    rcases Nat.lt_or_ge k 156 with h1 | h1
    · exact h1
    · exfalso
      have : xK k = none := by
        unfold xK
        rw [if_neg (by omega), List.getD_eq_getElem?_getD, List.getElem?_eq_none (Nat.le_trans (show xKL.length ≤ 56 by decide) (by omega))]
        rfl
      rw [this] at h
      cases h
  have hd : ∀ k, k < 156 → (match xK k with | none => true | some t => (decide (k = 100) && hKe t (.inr 10)) || xTK.any (fun e => decide (e.1 = k) && hKe e.2 t)) = true := by decide +kernel
  have := hd k hlt
  rw [h] at this
  rcases Bool.or_eq_true_iff.mp this with g | g
  · have g2 := Bool.and_eq_true_iff.mp g
    exact Or.inl ⟨of_decide_eq_true g2.1, hKe_eq g2.2⟩
  · exact Or.inr (hK_in g)
theorem lk_mem {q k r : Nat} (l : List ((Nat × Nat) × Nat)) (h : l.lookup (q, k) = some r) : ((q, k), r) ∈ l := by
  induction l with
  | nil => cases h
  | cons a l ih =>
    obtain ⟨a1, a2⟩ := a
    unfold List.lookup at h
    split at h
    · rename_i he
      cases h
      have : (q, k) = a1 := by simpa using he
      rw [this]; exact List.mem_cons_self
    · exact List.mem_cons_of_mem _ (ih h)
theorem xR_in {q k r : Nat} (h : xRf q k = some r) : (q, k, r) ∈ xTR := (by decide +kernel : ∀ e ∈ xRL, (e.1.1, e.1.2, e.2) ∈ xTR) _ (lk_mem _ h)
theorem mK_in {k : Nat} {t : FieldType × Nat} (h : mK k = some t) : (k, .inl t) ∈ mTK ∧ (63, k, k) ∈ mTR := by
  have hlt := mK_lt h
  have hd : ∀ k, k < 63 → (match mK k with | none => true | some t => mTK.any (fun e => decide (e.1 = k) && hKe e.2 (.inl t)) && decide ((63, k, k) ∈ mTR)) = true := by decide +kernel
  have := hd k hlt
  rw [h] at this
  have g := Bool.and_eq_true_iff.mp this
  exact ⟨hK_in g.1, of_decide_eq_true g.2⟩
theorem gNw_nou {G : hG} {k q a : Nat} {kd : hKd} (h : nou G q) (hne : q ≠ k) : nou (gNw G k kd a) q := by
  refine ⟨(va_up_other _ _ hne).trans h.1, fun p j e => ?_⟩
  by_cases hp : p = k
  · subst hp
    rw [show (gNw G p kd a).2.2.2.1 p = fun _ => none from va_up_same _ _ _] at e
    cases e
  · rw [show (gNw G k kd a).2.2.2.1 p = G.2.2.2.1 p from va_up_other _ _ hp] at e
    exact h.2 p j e
theorem G0_nou {sa : Nat → Nat} {q : Nat} (h : q < 90 ∨ 94 < q) : nou (G0 sa) q := by
  refine ⟨?_, fun p j e => by cases e⟩
  show (xSt q).map _ = none
  have : xSt q = none := by
    cases e : xSt q with
    | none => rfl
    | some n => rcases xSt_in e with g | g | g | g | g <;> omega
  rw [this]; rfl

theorem law_frs {a0 : Nat} {sa : Nat → Nat} {a1 a2 : Nat} {G2 G4 : hG} (ha1 : a0 ≤ a1) (ha2 : a0 ≤ a2) (b1 : blt a0 100 101 (101 + 55) 10000 7 iv0 xTK xTR (gNw (G0 sa) 100 (.inr 10) a1) G2) (b2 : blt a0 63 0 63 63 63 mIv mTK mTR (gNw G2 63 (.inr 11) a2) G4) : frs a0 sa G4.1 G4.2.1 G4.2.2.1 G4.2.2.2.1 G4.2.2.2.2 := by
  -- a cell from 64 on, as G2 has it
  have up : ∀ q, 64 ≤ q → G4.1 q = G2.1 q ∧ G4.2.2.2.2 q = G2.2.2.2.2 q ∧ G4.2.1 q = G2.2.1 q ∧ G4.2.2.2.1 q = G2.2.2.2.1 q := by
    intro q hq
    have h := b2.2.1 q (by omega)
    exact ⟨h.1.trans (gNw_To (by omega)), h.2.1.trans (gNw_A2 (by omega)), h.2.2.2.1.trans (gNw_Io (by omega)), (h.2.2.2.2 (by omega)).trans (gNw_Ro (by omega))⟩
  -- below 100, as the start has it
  have dn : ∀ q, q < 100 → G2.1 q = (G0 sa).1 q ∧ G2.2.2.2.2 q = (G0 sa).2.2.2.2 q ∧ G2.2.1 q = (G0 sa).2.1 q := by
    intro q hq
    have h := b1.2.1 q (by omega)
    exact ⟨h.1.trans (gNw_To (by omega)), h.2.1.trans (gNw_A2 (by omega)), h.2.2.2.1.trans (gNw_Io (by omega))⟩
  have o1 := b1.old
  have o2 := b2.old
  have t100 : G4.1 100 = some (.inr 10) := (up 100 (by decide)).1.trans (o1.1.trans gNw_T)
  have A100 : a0 ≤ G4.2.2.2.2 100 := by
    rw [(up 100 (by decide)).2.1, o1.2.1]
    rw [gNw_A1]; exact ha1
  have I100 : ∀ j, G4.2.1 100 j = 0 := fun j => by
    rw [(up 100 (by decide)).2.2.1, o1.2.2.2, gNw_I]
  have I63 : ∀ j, G4.2.1 63 j = 0 := fun j => by
    rw [o2.2.2.2, gNw_I]
  have tk : ∀ e ∈ xTK, G4.1 e.1 = some e.2 ∧ a0 ≤ G4.2.2.2.2 e.1 ∧ ∀ j, G4.2.1 e.1 j = 0 := by
    intro e he
    have h := b1.2.2.2.1 e he
    have hu := up e.1 (by omega)
    rw [hu.1, hu.2.1, hu.2.2.1]
    exact ⟨h.1, h.2.2.1, fun j => h.2.2.2.1 j⟩
  have tr : ∀ e ∈ xTR, G4.2.2.2.1 e.1 e.2.1 = some e.2.2 := by
    intro e he
    have h := b1.2.2.2.2 e he
    rw [(up e.1 (by rcases h.2 with g | g <;> omega)).2.2.2]
    exact h.1
  have mt : ∀ e ∈ mTK, G4.1 e.1 = some e.2 ∧ a0 ≤ G4.2.2.2.2 e.1 ∧ ∀ j, G4.2.1 e.1 j = mIv e.1 j := fun e he => ⟨(b2.2.2.2.1 e he).1, (b2.2.2.2.1 e he).2.2.1, (b2.2.2.2.1 e he).2.2.2.1⟩
  have st : ∀ q, 90 ≤ q → q < 95 → G4.1 q = (G0 sa).1 q ∧ G4.2.2.2.2 q = (G0 sa).2.2.2.2 q ∧ G4.2.1 q = (G0 sa).2.1 q := fun q h1 h2 => ⟨(up q (by omega)).1.trans (dn q (by omega)).1, (up q (by omega)).2.1.trans (dn q (by omega)).2.1, (up q (by omega)).2.2.1.trans (dn q (by omega)).2.2⟩
  refine ⟨⟨⟨fun k t h => ?_, fun q k r h => tr _ (xR_in h), fun k n h => ?_⟩, fun k hk => ?_, ⟨fun t ht => ?_, fun t ht => ?_, fun t ht => ?_, fun t ht => ?_⟩, I100 7, I100 8, (tk (103, .inr 4) (List.mem_of_getElem? (i := 2) rfl)).2.2 1, (tk (105, .inr 4) (List.mem_of_getElem? (i := 4) rfl)).2.2 1, (tk (107, .inr 4) (List.mem_of_getElem? (i := 6) rfl)).2.2 1⟩, ⟨⟨o2.1.trans gNw_T, ?_, fun k t h => ?_⟩, ⟨I63 24, I63 33, I63 56, I63 58, I63 60⟩, fun t ht => ?_, fun t ht => ?_, fun j _ _ => (mt (13, .inl (.int, 32)) (List.mem_of_getElem? (i := 12) rfl)).2.2 j⟩, ⟨⟨tr (121, 2, 124) (by decide), tr (121, 3, 125) (by decide), tr (121, 4, 126) (by decide), tr (121, 5, 127) (by decide)⟩, by omega, by omega⟩, ?_⟩
  · rcases xK_in h with ⟨rfl, rfl⟩ | h
    · exact ⟨t100, A100⟩
    · exact ⟨(tk _ h).1, (tk _ h).2.1⟩
  · have hk : 90 ≤ k ∧ k < 95 := by rcases xSt_in h with g | g | g | g | g <;> omega
    rw [(st k hk.1 hk.2).1]
    show (xSt k).map _ = _
    rw [h]; rfl
  · rw [(st (90 + k) (by omega) (by omega)).2.1]
    show sa k = sa (90 + k - 90)
    rw [Nat.add_sub_cancel_left]
  · rw [(st 91 (by decide) (by decide)).2.2]; rfl
  · rw [(st 92 (by decide) (by decide)).2.2]; rfl
  · rw [(st 93 (by decide) (by decide)).2.2]; rfl
  · rw [(st 90 (by decide) (by decide)).2.2]; rfl
  · rw [o2.2.1]
    rw [gNw_A1]; exact ha2
  · have hm := mK_in h
    exact ⟨(b2.2.2.2.2 _ hm.2).1, (mt _ hm.1).1, (mt _ hm.1).2.1⟩
  · rw [(mt (4, .inl (.int, 8)) (List.mem_of_getElem? (i := 3) rfl)).2.2 t]
    simp [mIv, ht]
  · rw [(mt (5, .inl (.int, 64)) (List.mem_of_getElem? (i := 4) rfl)).2.2 t]
    simp [mIv, ht]
  · show fre 200 300 G4
    have F1 : fre 101 10000 (gNw (G0 sa) 100 (.inr 10) a1) := fun q h1 h2 => gNw_nou (G0_nou (by omega)) (by omega)
    have F2 : fre 200 300 G2 := fun q h1 h2 => b1.frm F1 q (by omega) (by omega)
    have F3 : fre 200 300 (gNw G2 63 (.inr 11) a2) := fun q h1 h2 => gNw_nou (F2 q h1 h2) (by omega)
    exact b2.fro F3 (Or.inr (by omega))

theorem law_fr2 {a0 : Nat} {sa : Nat → Nat} {a1 a2 : Nat} {G2 G4 : hG} (ha1 : a0 ≤ a1) (ha2 : a0 ≤ a2) (b1 : blt a0 100 101 (101 + 55) 10000 7 iv0 xTK xTR (gNw (G0 sa) 100 (.inr 10) a1) G2) (b2 : blt a0 63 0 63 63 63 mIv mTK mTR (gNw G2 63 (.inr 11) a2) G4) : fre 300 400 G4 ∧ (∀ q, 39 ≤ q → q ≤ 54 → ∀ j, G4.2.1 q j = 0) := by
  have F1 : fre 101 10000 (gNw (G0 sa) 100 (.inr 10) a1) := fun q h1 h2 => gNw_nou (G0_nou (by omega)) (by omega)
  have F2 : fre 300 400 G2 := fun q h1 h2 => b1.frm F1 q (by omega) (by omega)
  have F3 : fre 300 400 (gNw G2 63 (.inr 11) a2) := fun q h1 h2 => gNw_nou (F2 q h1 h2) (by omega)
  refine ⟨b2.fro F3 (Or.inr (by omega)), fun q h1 h2 => ?_⟩
  have mt : ∀ e ∈ mTK, G4.1 e.1 = some e.2 ∧ a0 ≤ G4.2.2.2.2 e.1 ∧ ∀ j, G4.2.1 e.1 j = mIv e.1 j := fun e he => ⟨(b2.2.2.2.1 e he).1, (b2.2.2.2.1 e he).2.2.1, (b2.2.2.2.1 e he).2.2.2.1⟩
  rcases (show q = 39 ∨ q = 40 ∨ q = 41 ∨ q = 42 ∨ q = 43 ∨ q = 44 ∨ q = 45 ∨ q = 46 ∨ q = 47 ∨ q = 48 ∨ q = 49 ∨ q = 50 ∨ q = 51 ∨ q = 52 ∨ q = 53 ∨ q = 54 by omega) with rfl | rfl | rfl | rfl | rfl | rfl | rfl | rfl | rfl | rfl | rfl | rfl | rfl | rfl | rfl | rfl
  · exact (mt (39, .inl (.int, 5)) (List.mem_of_getElem? (i := 36) rfl)).2.2
  · exact (mt (40, .inl (.int, 5)) (List.mem_of_getElem? (i := 37) rfl)).2.2
  · exact (mt (41, .inl (.boolean, 5)) (List.mem_of_getElem? (i := 38) rfl)).2.2
  · exact (mt (42, .inl (.boolean, 5)) (List.mem_of_getElem? (i := 39) rfl)).2.2
  · exact (mt (43, .inl (.int, 5)) (List.mem_of_getElem? (i := 40) rfl)).2.2
  · exact (mt (44, .inl (.int, 5)) (List.mem_of_getElem? (i := 41) rfl)).2.2
  · exact (mt (45, .inl (.boolean, 5)) (List.mem_of_getElem? (i := 42) rfl)).2.2
  · exact (mt (46, .inl (.boolean, 5)) (List.mem_of_getElem? (i := 43) rfl)).2.2
  · exact (mt (47, .inl (.int, 160)) (List.mem_of_getElem? (i := 44) rfl)).2.2
  · exact (mt (48, .inl (.int, 160)) (List.mem_of_getElem? (i := 45) rfl)).2.2
  · exact (mt (49, .inl (.int, 160)) (List.mem_of_getElem? (i := 46) rfl)).2.2
  · exact (mt (50, .inl (.int, 160)) (List.mem_of_getElem? (i := 47) rfl)).2.2
  · exact (mt (51, .inl (.int, 160)) (List.mem_of_getElem? (i := 48) rfl)).2.2
  · exact (mt (52, .inl (.int, 160)) (List.mem_of_getElem? (i := 49) rfl)).2.2
  · exact (mt (53, .inl (.int, 160)) (List.mem_of_getElem? (i := 50) rfl)).2.2
  · exact (mt (54, .inl (.int, 160)) (List.mem_of_getElem? (i := 51) rfl)).2.2
def W0 : wW := (0, fun _ => (fun _ => false, 0, fun _ => 0, fun _ _ => 0), 0, fun _ => (0, 0, 0, 0, 0, 0, sg0), (0, fun _ => 0), (0, fun _ => 0), (0, fun _ => 0))
theorem PI_0 : PI W0 := ⟨⟨Nat.zero_le _, Nat.zero_le _⟩, ⟨Nat.zero_le _, fun j hj => absurd hj (Nat.not_lt_zero j)⟩, ⟨Nat.zero_le _, fun j hj => absurd hj (Nat.not_lt_zero j)⟩, Nat.zero_le _, fun p hp => absurd hp (Nat.not_lt_zero p), fun s hs => absurd hs (Nat.not_lt_zero s)⟩
theorem XR_0 {a0 : Nat} {sa : Nat → Nat} {T : Nat → Option hKd} {I : Nat → Nat → Int32} {L : Nat → Nat → Int64} {R : Nat → Nat → Option Nat} {A : Nat → Nat} (F : frs a0 sa T I L R A) (F3 : fre 300 400 (T, I, L, R, A)) : XR a0 sa W0 T I R A := by
  obtain ⟨⟨xO, hsa, hst, f⟩, _, hcv, hfr⟩ := F
  exact ⟨⟨xO, hsa, ⟨124, 125, 126, 127, hcv⟩, hfr, F3⟩, ⟨hst, f.1, f.2.1⟩, fun p hp => absurd hp (Nat.not_lt_zero p), fun s hs => absurd hs (Nat.not_lt_zero s), ⟨f.2.2.1, fun j hj => absurd hj (Nat.not_lt_zero j)⟩, ⟨f.2.2.2.1, fun j hj => absurd hj (Nat.not_lt_zero j)⟩, ⟨f.2.2.2.2, fun j hj => absurd hj (Nat.not_lt_zero j)⟩⟩
theorem MR_0 {a0 : Nat} {sa : Nat → Nat} {T : Nat → Option hKd} {I : Nat → Nat → Int32} {L : Nat → Nat → Int64} {R : Nat → Nat → Option Nat} {A : Nat → Nat} (F : frs a0 sa T I L R A) (Z : ∀ q, 39 ≤ q → q ≤ 54 → ∀ j, I q j = 0) : MR a0 W0 T I R A := by
  obtain ⟨_, ⟨mO, fM, h4, h5, h13⟩, _⟩ := F
  refine ⟨⟨mO, ⟨h4, h5⟩, h13⟩, fM, fun p hp => absurd hp (Nat.not_lt_zero p), fun s hs => absurd hs (Nat.not_lt_zero s), fun s _ _ => ⟨?_, fun j _ => Z 51 (by decide) (by decide) _⟩, fun j hj => absurd hj (Nat.not_lt_zero j), fun j hj => absurd hj (Nat.not_lt_zero j), fun j hj => absurd hj (Nat.not_lt_zero j)⟩
  exact ⟨fun j _ => Z 47 (by decide) (by decide) _, fun j _ => Z 48 (by decide) (by decide) _, fun j _ => Z 49 (by decide) (by decide) _, fun j _ => Z 50 (by decide) (by decide) _, fun j _ => Z 52 (by decide) (by decide) _, fun j _ => Z 54 (by decide) (by decide) _, fun _ j _ => Z 53 (by decide) (by decide) _, ⟨Z 42 (by decide) (by decide) _, Z 45 (by decide) (by decide) _, Z 46 (by decide) (by decide) _, Z 43 (by decide) (by decide) _, Z 39 (by decide) (by decide) _, Z 40 (by decide) (by decide) _⟩, fun _ => Z 44 (by decide) (by decide) _, Z 41 (by decide) (by decide) _⟩
set_option maxHeartbeats 4000000 in
set_option maxRecDepth 100000 in
theorem law_sw {z : hZ} (C : hC z RL code) (hZ : zR z = room_1) {b cl sl N t : Nat} (hcl : cl ≤ 200 + 12 * t) (hsl : sl ≤ 6000 + 343 * t) (hN : N ≤ 3072) (ht : 6 * t + 6 ≤ N) {xs : Nat → Int32} (hS : va_X b N xs (zs z) (zs z).heap) (hbl : b < (zs z).heap.size) (hb0 : b < z0 z) {W : wW} {T : Nat → Option hKd} {I : Nat → Nat → Int32} {L : Nat → Nat → Int64} {R : Nat → Nat → Option Nat} {A : Nat → Nat} (gX : XR (z0 z) (zS z) W T I R A) (gM : MR (z0 z) W T I R A) (hP : PI W) (J : lwJ z b t) (x : Int32) : hX z cl sl (T, I, L, R, A) [(3, .int (nI (6 * t))), (2, .ref (A 63)), (1, .ref (A 100)), (0, .ref b)] 33 [.int x] := by
  by_cases s0 : x = nI 0
  · refine x_tableIn (off := 91) (tgt := 124) C dL_law_33 (by rw [s0]; decide +kernel) (by rw [s0]; decide +kernel) (by rw [s0]; decide +kernel) (by decide) ?_
    exact arm_0 C hZ hcl hsl hN ht hS hbl hb0 gX gM hP J
  by_cases s1 : x = nI 1
  · refine x_tableIn (off := 156) (tgt := 189) C dL_law_33 (by rw [s1]; decide +kernel) (by rw [s1]; decide +kernel) (by rw [s1]; decide +kernel) (by decide) ?_
    exact arm_1 C hZ hcl hsl hN ht hS hbl hb0 gX gM hP J
  by_cases s2 : x = nI 2
  · refine x_tableIn (off := 179) (tgt := 212) C dL_law_33 (by rw [s2]; decide +kernel) (by rw [s2]; decide +kernel) (by rw [s2]; decide +kernel) (by decide) ?_
    exact arm_2 C hZ hcl hsl hN ht hS hbl hb0 gX gM hP J
  by_cases s3 : x = nI 3
  · refine x_tableIn (off := 212) (tgt := 245) C dL_law_33 (by rw [s3]; decide +kernel) (by rw [s3]; decide +kernel) (by rw [s3]; decide +kernel) (by decide) ?_
    exact arm_3 C hZ hcl hsl hN ht hS hbl hb0 gX gM hP J
  by_cases s4 : x = nI 4
  · refine x_tableIn (off := 235) (tgt := 268) C dL_law_33 (by rw [s4]; decide +kernel) (by rw [s4]; decide +kernel) (by rw [s4]; decide +kernel) (by decide) ?_
    exact arm_4 C hZ hcl hsl hN ht hS hbl hb0 gX gM hP J
  by_cases s5 : x = nI 5
  · refine x_tableIn (off := 268) (tgt := 301) C dL_law_33 (by rw [s5]; decide +kernel) (by rw [s5]; decide +kernel) (by rw [s5]; decide +kernel) (by decide) ?_
    exact arm_5 C hZ hcl hsl hN ht hS hbl hb0 gX gM hP J
  by_cases s6 : x = nI 6
  · refine x_tableIn (off := 331) (tgt := 364) C dL_law_33 (by rw [s6]; decide +kernel) (by rw [s6]; decide +kernel) (by rw [s6]; decide +kernel) (by decide) ?_
    exact arm_6 C hZ hcl hsl hN ht hS hbl hb0 gX gM hP J
  by_cases s7 : x = nI 7
  · refine x_tableIn (off := 354) (tgt := 387) C dL_law_33 (by rw [s7]; decide +kernel) (by rw [s7]; decide +kernel) (by rw [s7]; decide +kernel) (by decide) ?_
    exact arm_7 C hZ hcl hsl hN ht hS hbl hb0 gX gM hP J
  by_cases s8 : x = nI 8
  · refine x_tableIn (off := 417) (tgt := 450) C dL_law_33 (by rw [s8]; decide +kernel) (by rw [s8]; decide +kernel) (by rw [s8]; decide +kernel) (by decide) ?_
    exact arm_8 C hZ hcl hsl hN ht hS hbl hb0 gX gM hP J
  by_cases s9 : x = nI 9
  · refine x_tableIn (off := 440) (tgt := 473) C dL_law_33 (by rw [s9]; decide +kernel) (by rw [s9]; decide +kernel) (by rw [s9]; decide +kernel) (by decide) ?_
    exact arm_9 C hZ hcl hsl hN ht hS hbl hb0 gX gM hP J
  by_cases s10 : x = nI 10
  · refine x_tableIn (off := 463) (tgt := 496) C dL_law_33 (by rw [s10]; decide +kernel) (by rw [s10]; decide +kernel) (by rw [s10]; decide +kernel) (by decide) ?_
    exact arm_10 C hZ hcl hsl hN ht hS hbl hb0 gX gM hP J
  by_cases s11 : x = nI 11
  · refine x_tableIn (off := 496) (tgt := 529) C dL_law_33 (by rw [s11]; decide +kernel) (by rw [s11]; decide +kernel) (by rw [s11]; decide +kernel) (by decide) ?_
    exact arm_11 C hZ hcl hsl hN ht hS hbl hb0 gX gM hP J
  by_cases s12 : x = nI 12
  · refine x_tableIn (off := 519) (tgt := 552) C dL_law_33 (by rw [s12]; decide +kernel) (by rw [s12]; decide +kernel) (by rw [s12]; decide +kernel) (by decide) ?_
    exact arm_12 C hZ hcl hsl hN ht hS hbl hb0 gX gM hP J
  by_cases s13 : x = nI 13
  · refine x_tableIn (off := 552) (tgt := 585) C dL_law_33 (by rw [s13]; decide +kernel) (by rw [s13]; decide +kernel) (by rw [s13]; decide +kernel) (by decide) ?_
    exact arm_13 C hZ hcl hsl hN ht hS hbl hb0 gX gM hP J
  by_cases s14 : x = nI 14
  · refine x_tableIn (off := 585) (tgt := 618) C dL_law_33 (by rw [s14]; decide +kernel) (by rw [s14]; decide +kernel) (by rw [s14]; decide +kernel) (by decide) ?_
    exact arm_14 C hZ hcl hsl hN ht hS hbl hb0 gX gM hP J
  by_cases s15 : x = nI 15
  · refine x_tableIn (off := 618) (tgt := 651) C dL_law_33 (by rw [s15]; decide +kernel) (by rw [s15]; decide +kernel) (by rw [s15]; decide +kernel) (by decide) ?_
    exact arm_15 C hZ hcl hsl hN ht hS hbl hb0 gX gM hP J
  by_cases s16 : x = nI 16
  · refine x_tableIn (off := 651) (tgt := 684) C dL_law_33 (by rw [s16]; decide +kernel) (by rw [s16]; decide +kernel) (by rw [s16]; decide +kernel) (by decide) ?_
    exact arm_16 C hZ hcl hsl hN ht hS hbl hb0 gX gM hP J
  by_cases s17 : x = nI 17
  · refine x_tableIn (off := 694) (tgt := 727) C dL_law_33 (by rw [s17]; decide +kernel) (by rw [s17]; decide +kernel) (by rw [s17]; decide +kernel) (by decide) ?_
    exact arm_17 C hZ hcl hsl hN ht hS hbl hb0 gX gM hP J
  by_cases s18 : x = nI 18
  · refine x_tableIn (off := 717) (tgt := 750) C dL_law_33 (by rw [s18]; decide +kernel) (by rw [s18]; decide +kernel) (by rw [s18]; decide +kernel) (by decide) ?_
    exact arm_18 C hZ hcl hsl hN ht hS hbl hb0 gX gM hP J
  refine x_tableOut (tgt := 764) C dL_law_33 (sw_out (n := 18) (by decide) (fun k hk => ?_)) (by decide) (J _ _ _ _ _ _ _ _ (by omega) (by omega) gX gM hP)
  rcases (show k = 0 ∨ k = 1 ∨ k = 2 ∨ k = 3 ∨ k = 4 ∨ k = 5 ∨ k = 6 ∨ k = 7 ∨ k = 8 ∨ k = 9 ∨ k = 10 ∨ k = 11 ∨ k = 12 ∨ k = 13 ∨ k = 14 ∨ k = 15 ∨ k = 16 ∨ k = 17 ∨ k = 18 by omega) with rfl | rfl | rfl | rfl | rfl | rfl | rfl | rfl | rfl | rfl | rfl | rfl | rfl | rfl | rfl | rfl | rfl | rfl | rfl
  · exact s0
  · exact s1
  · exact s2
  · exact s3
  · exact s4
  · exact s5
  · exact s6
  · exact s7
  · exact s8
  · exact s9
  · exact s10
  · exact s11
  · exact s12
  · exact s13
  · exact s14
  · exact s15
  · exact s16
  · exact s17
  · exact s18
theorem nI_s6 {n : Nat} (h : n ≤ 3072) : (nI n - nI 6).toInt = (n : Int) - 6 := by
  rw [Int32.toInt_sub, nI_tI (by omega), nI_tI (by decide)]
  unfold Int.bmod
  simp only
  omega
set_option maxHeartbeats 4000000 in
set_option maxRecDepth 100000 in
theorem law_loop {z : hZ} (C : hC z RL code) (hZ : zR z = room_1) (hNn : zn z = 4) {b N : Nat} {xs : Nat → Int32} (hN : N ≤ 3072) (hS : va_X b N xs (zs z) (zs z).heap) (hbl : b < (zs z).heap.size) (hb0 : b < z0 z) (K : ∀ (c s : Nat) (G : hG) (lv : List (Nat × Value)), c ≤ 600000 → s ≤ 7302250 → hX z c s G lv 770 []) : ∀ (f t cl sl : Nat), 6 * t ≤ N → N - 6 * t < f → cl ≤ 200 + 12 * t → sl ≤ 6000 + 343 * t → ∀ {W : wW} {T : Nat → Option hKd} {I : Nat → Nat → Int32} {L : Nat → Nat → Int64} {R : Nat → Nat → Option Nat} {A : Nat → Nat}, XR (z0 z) (zS z) W T I R A → MR (z0 z) W T I R A → PI W → hX z cl sl (T, I, L, R, A) [(3, .int (nI (6 * t))), (2, .ref (A 63)), (1, .ref (A 100)), (0, .ref b)] 18 [] := by
  intro f
  induction f with
  | zero => intro t cl sl _ h; exact absurd h (Nat.not_lt_zero _)
  | succ f ih =>
    intro t cl sl htN hf hcl hsl W T I L R A gX gM hP
    refine x_iload_n C dL_law_18 0 rfl rfl ?_
    refine x_aload_n C dL_law_19 3 rfl rfl ?_
    refine x_slen C hS hbl hb0 dL_law_20 ?_
    refine x_bipush (v := nI 6) C dL_law_21 (by decide +kernel) ?_
    refine x_isub C dL_law_23 ?_
    refine x_icmp_gt (tgt := 770) C dL_law_24 (by decide) (fun _ => K _ _ _ _ (by omega) (by omega)) (fun c24 => ?_)
    have ht : 6 * t + 6 ≤ N := by
      rcases Nat.lt_or_ge N (6 * t + 6) with h1 | h1
      · refine absurd ?_ c24
        show nI N - nI 6 < nI (6 * t)
        rw [Int32.lt_iff_toInt_lt, nI_s6 hN, nI_tI (by omega)]
        omega
      · exact h1
    refine x_aload_n C dL_law_27 3 rfl rfl ?_
    refine x_iload_n C dL_law_28 0 rfl rfl ?_
    refine x_sldN (k := 6 * t) C hS hbl hb0 (by omega) (by omega) dL_law_29 ?_
    refine x_bipush (v := nI 31) C dL_law_30 (by decide +kernel) ?_
    refine x_iand C dL_law_32 ?_
    refine law_sw C hZ hcl hsl hN ht hS hbl hb0 gX gM hP (fun c s W' T' I' L' R' A' hc hs X' M' P' => ?_) _
    refine x_iinc (v := nI (6 * (t + 1))) (lv' := [(3, .int (nI (6 * (t + 1)))), (2, .ref (A' 63)), (1, .ref (A' 100)), (0, .ref b)]) C dL_law_764 0 rfl (nI_inc 6) (Nat.lt_of_lt_of_eq (by decide) hNn.symm) rfl ?_
    refine x_goto (tgt := 18) C dL_law_767 (by decide) ?_
    exact ih (t + 1) c s (by omega) (by omega) hc hs X' M' P'
set_option maxHeartbeats 4000000 in
set_option maxRecDepth 100000 in
theorem law_main {z : hZ} (C : hC z RL code) (hZ : zR z = room_1) (hN : zn z = 4) {b L : Nat} {xs : Nat → Int32} (hL : L ≤ 3072) (hS : va_X b L xs (zs z) (zs z).heap) (hbl : b < (zs z).heap.size) (hb0 : b < z0 z) (K : ∀ (c s : Nat) (G : hG) (lv : List (Nat × Value)), c ≤ 600000 → s ≤ 7302250 → hX z c s G lv 770 []) : hX z 0 0 (G0 (zS z)) [(0, .ref b)] 0 [] := by
  refine x_new (k := 100) (ci := 10) C (G0_nou (by decide)) hc_X10 (by decide +kernel) cl_L_7 it_X10 ini_X10 (by rw [hZ]; exact Nat.le_of_ble_eq_true rfl) (by rw [hZ]; exact Nat.le_of_ble_eq_true rfl) dL_law_0 (fun a1 ha1 => ?_)
  have e1 : a1 = gA (gNw (G0 (zS z)) 100 (.inr 10) a1) 100 := gNw_A.symm
  have go : ∀ G1, G1 = gNw (G0 (zS z)) 100 (.inr 10) a1 → hX z (0 + 1) (0 + 9) G1 [(0, .ref b)] 3 [.ref (gA G1 100)] := by
    intro G1 hG1
    have F1 : fre 101 10000 G1 := by rw [hG1]; exact fun q h1 h2 => gNw_nou (G0_nou (by omega)) (by omega)
    have F0 : fre 0 64 G1 := by rw [hG1]; exact fun q h1 h2 => gNw_nou (G0_nou (by omega)) (by omega)
    refine x_dup C dL_law_3 rfl ?_
    refine x_callI C (ok_X10_init 100 101 10000 (by decide) (by decide) (by rw [hG1]; exact gNw_T) (by rw [hG1, gNw_A]; exact ha1) (fun j => by rw [hG1, gNw_I]) F1) mi_X10_init ml_L_9 rfl rfl (Nat.le_of_ble_eq_true rfl) (hrm (rm := { frames := 0, cells := 0, slots := 0, locals := 0 }) hZ ⟨Nat.le_of_ble_eq_true rfl, Nat.le_of_ble_eq_true rfl⟩) (hcs hZ ⟨Nat.le_of_ble_eq_true rfl, Nat.le_of_ble_eq_true rfl⟩) dL_law_4 (fun v G2 hp => ?_)
    obtain ⟨rfl, b1⟩ := hp
    have b1 : blt (z0 z) 100 101 (101 + 55) 10000 7 iv0 xTK xTR G1 G2 := b1
    rw [show gA G1 100 = gA G2 100 from b1.old.2.1.symm]
    show hX z (0 + 1 + 54) (0 + 9 + 1301) G2 [(0, .ref b)] 7 [.ref (gA G2 100)]
    refine x_astore_n (lv' := [(1, .ref (gA G2 100)), (0, .ref b)]) C dL_law_7 rfl (Nat.lt_of_lt_of_eq (by decide) hN.symm) rfl ?_
    have F2 := b1.fro F0 (Or.inl (by decide))
    refine x_new (k := 63) (ci := 11) C (F2 63 (by decide) (by decide)) hc_X11 (by decide +kernel) cl_L_10 it_X11 ini_X11 (by rw [hZ]; exact Nat.le_of_ble_eq_true rfl) (by rw [hZ]; exact Nat.le_of_ble_eq_true rfl) dL_law_8 (fun a2 ha2 => ?_)
    have e2 : a2 = gA (gNw G2 63 (.inr 11) a2) 63 := gNw_A.symm
    have go2 : ∀ G3, G3 = gNw G2 63 (.inr 11) a2 → hX z (0 + 1 + 54 + 1) (0 + 9 + 1301 + 63) G3 [(1, .ref (gA G2 100)), (0, .ref b)] 11 [.ref (gA G3 63)] := by
      intro G3 hG3
      have F3 : fre 0 63 G3 := by rw [hG3]; exact fun q h1 h2 => gNw_nou (F2 q h1 (by omega)) (by omega)
      refine x_dup C dL_law_11 rfl ?_
      refine x_callI C (ok_X11_init (by rw [hG3]; exact gNw_T) (by rw [hG3, gNw_A]; exact ha2) (fun j => by rw [hG3, gNw_I]) F3) mi_X11_init ml_L_12 rfl rfl (Nat.le_of_ble_eq_true rfl) (hrm (rm := { frames := 0, cells := 0, slots := 0, locals := 0 }) hZ ⟨Nat.le_of_ble_eq_true rfl, Nat.le_of_ble_eq_true rfl⟩) (hcs hZ ⟨Nat.le_of_ble_eq_true rfl, Nat.le_of_ble_eq_true rfl⟩) dL_law_12 (fun v G4 hp => ?_)
      obtain ⟨rfl, b2⟩ := hp
      have F : frs (z0 z) (zS z) G4.1 G4.2.1 G4.2.2.1 G4.2.2.2.1 G4.2.2.2.2 := law_frs ha1 ha2 (by rw [← hG1]; exact b1) (by rw [← hG3]; exact b2)
      have c1 : gA G2 100 = gA G4 100 := by
        have h := (b2.2.1 100 (by omega)).2.1
        rw [hG3] at h
        exact (h.trans (gNw_A2 (by decide))).symm
      rw [c1, show gA G3 63 = gA G4 63 from b2.old.2.1.symm]
      show hX z (0 + 1 + 54 + 1 + 57) (0 + 9 + 1301 + 63 + 4310) G4 [(1, .ref (gA G4 100)), (0, .ref b)] 15 [.ref (gA G4 63)]
      refine x_astore_n (lv' := [(2, .ref (gA G4 63)), (1, .ref (gA G4 100)), (0, .ref b)]) C dL_law_15 rfl (Nat.lt_of_lt_of_eq (by decide) hN.symm) rfl ?_
      refine x_iconst (v := nI 0) C dL_law_16 (by decide +kernel) ?_
      refine x_istore_n (lv' := [(3, .int (nI 0)), (2, .ref (gA G4 63)), (1, .ref (gA G4 100)), (0, .ref b)]) C dL_law_17 rfl (Nat.lt_of_lt_of_eq (by decide) hN.symm) rfl ?_
      have F2' := law_fr2 ha1 ha2 (by rw [← hG1]; exact b1) (by rw [← hG3]; exact b2)
      exact law_loop (T := G4.1) (I := G4.2.1) (L := G4.2.2.1) (R := G4.2.2.2.1) (A := G4.2.2.2.2) C hZ hN hL hS hbl hb0 K (L + 1) 0 _ _ (Nat.zero_le _) (by omega) (Nat.le_of_ble_eq_true rfl) (Nat.le_of_ble_eq_true rfl) (XR_0 F F2'.1) (MR_0 F F2'.2) PI_0
    have := go2 _ rfl
    rw [← e2] at this
    exact this
  have := go _ rfl
  rw [← e1] at this
  exact this

