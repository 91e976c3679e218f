/-! ===== the class over the world: rows, numbers, makers ===== -/
set_option maxHeartbeats 4000000 in
set_option maxRecDepth 100000 in
theorem fl_X10_pattern {l : Launch} {a0 : Nat} {D : va_G} {sa : Nat → Nat} {T : Nat → Option hKd} {I : Nat → Nat → Int32} {L : Nat → Nat → Int64} {R : Nat → Nat → Option Nat} {A : Nat → Nat} (xO : isX T R A a0) (hsa : ∀ k, k < 5 → sa k = A (90 + k)) (hnp : I 100 7 = nI 8) (u v : Int32) : hM l a0 D sa yX10_pattern cX10_pattern 3 (some .int) { frames := 0, cells := 0, slots := 0, locals := 0 } [.ref (A 100), .int u, .int v] (T, I, L, R, A) (fun r G' => r = some (.int (-4)) ∧ G' = (T, I, L, R, A)) := by
  refine hM.of (by decide +kernel) (Nat.le_of_ble_eq_true rfl) ?_
  intro z hl h0 hD hS hN C E
  subst hl; subst h0; subst hD; subst hS
  have C : hC z RX10 cX10_pattern := C
  have hZ := E.2.2.2.1
  show hX z 0 0 (T, I, L, R, A) [(0, .ref (A 100)), (1, .int u), (2, .int v)] 0 []
  refine x_aload_n C dX10_pattern_0 0 rfl rfl ?_
  refine x_getiN C fl_X10_47 (xO.1 100 _ rfl).1 rfl dX10_pattern_1 ?_
  refine x_eqi (y := nI 8) hnp ?_
  refine x_bipush (v := nI 8) C dX10_pattern_4 (by decide +kernel) ?_
  refine x_icmp_ltN (tgt := 12) C (by omega) (by omega) dX10_pattern_6 (by decide) (fun c6 => absurd c6 (by omega)) (fun c6 => ?_)
  refine x_bipush (v := (-4)) C dX10_pattern_9 (by decide +kernel) ?_
  exact x_iret C E (Nat.le_of_ble_eq_true rfl) (Nat.le_of_ble_eq_true rfl) dX10_pattern_11 (⟨rfl, rfl⟩)

theorem isX.ext2 {T T1 : Nat → Option hKd} {R R1 : Nat → Nat → Option Nat} {A A1 : Nat → Nat} {a0 : Nat} (h : isX T R A a0) (e : ∀ q, q < 200 → T1 q = T q ∧ A1 q = A q ∧ (q ≠ 101 → q ≠ 102 → R1 q = R q)) : isX T1 R1 A1 a0 := by
  have h2 : ∀ q k r, xRf q k = some r → q ≠ 101 ∧ q ≠ 102 := by
    intro q k r hk
    by_cases hq : q ≠ 101 ∧ q ≠ 102
    · exact hq
    · exfalso
      have : xRf q k = none := by
        unfold xRf
        rw [List.lookup_eq_none_iff]
        intro e he
        have : ∀ e ∈ xRL, e.1.1 ≠ 101 ∧ e.1.1 ≠ 102 := by decide
        have h9 := this e he
        simp only [bne_iff_ne, ne_eq]
        intro h8
        rw [← h8] at h9
        exact hq h9
      rw [this] at hk; cases hk
  have hR : isX T1 (fun q => if q = 101 ∨ q = 102 then R q else R1 q) A1 a0 := isX.ext h (fun q hq => ⟨(e q hq).1, by
    show (if q = 101 ∨ q = 102 then R q else R1 q) = R q
    split
    · rfl
    · rename_i hn; exact (e q hq).2.2 (fun a => hn (Or.inl a)) (fun a => hn (Or.inr a)), (e q hq).2.1⟩)
  refine ⟨hR.1, fun q k r hk => ?_, hR.2.2⟩
  have h9 := hR.2.1 q k r hk
  have h8 := h2 q k r hk
  have h9 : (if q = 101 ∨ q = 102 then R q else R1 q) k = some r := h9
  rw [if_neg (by omega)] at h9; exact h9
theorem isSd.ext {T T1 : Nat → Option hKd} {R R1 : Nat → Nat → Option Nat} {A A1 : Nat → Nat} {a0 S P : Nat} (h : isSd T R A a0 S P) (e : ∀ q, S ≤ q → q < S + 12 → T1 q = T q ∧ R1 q = R q ∧ A1 q = A q) : isSd T1 R1 A1 a0 S P := by
  obtain ⟨⟨a1, a2⟩, b, c, d1, d2, d3⟩ := h
  have e0 := e S (by omega) (by omega)
  have e4 := e (S + 4) (by omega) (by omega)
  refine ⟨⟨by rw [e0.1]; exact a1, by rw [e0.2.2]; exact a2⟩, by rw [e0.2.1]; exact b, fun j h1 h2 => ?_, by rw [e4.1]; exact d1, by rw [e4.2.2]; exact d2, fun j hj => ?_⟩
  · have ej := e (S + j) (by omega) (by omega)
    rw [ej.1, ej.2.2]; exact c j h1 h2
  · have ej := e (S + 4 + 1 + j) (by omega) (by omega)
    rw [e4.2.1, ej.1, ej.2.2]; exact d3 j hj
def nwP (a0 h c : Nat) (u v : Int32) (T : Nat → Option hKd) (I : Nat → Nat → Int32) (R : Nat → Nat → Option Nat) (A : Nat → Nat) (T1 : Nat → Option hKd) (I1 : Nat → Nat → Int32) (R1 : Nat → Nat → Option Nat) (A1 : Nat → Nat) : Prop := (∀ q, ¬ (h ≤ q ∧ q < h + 9) → T1 q = T q ∧ A1 q = A q ∧ (q ≠ 101 → R1 q = R q) ∧ (q ≠ 100 → I1 q = I q)) ∧ R1 101 = va_up (R 101) c (some h) ∧ I1 100 = upd (I 100) 7 (nI (c + 1)) ∧ (∀ p j q, R1 p j = some q → R p j = some q ∨ (h ≤ q ∧ q < h + 9)) ∧ isPt T1 R1 A1 a0 h ∧ ptI I1 h (knw u v) 0 (fun _ => 0) (fun _ _ => 0) false
theorem knw_0 {u : Int32} (h : u = 0 ∨ u = 1) : u = bI (decide (u = 1)) := by
  rcases h with rfl | rfl
  · rfl
  · rfl
theorem nwP_of {a0 h c a : Nat} {u v : Int32} {G Gm : hG} (hu : u = 0 ∨ u = 1) (hv : v = 0 ∨ v = 1) (hh : 200 ≤ h) (b : blt a0 h (h + 1) (h + 1 + 8) 300 4 iv0 [(h + 1, .inl (.array .int, 6)), (h + 1 + 1, .inl (.int, 5)), (h + 1 + 2, .inl (.int, 5)), (h + 1 + 3, .inl (.int, 5)), (h + 1 + 4, .inl (.int, 5)), (h + 1 + 5, .inl (.int, 5)), (h + 1 + 6, .inl (.int, 5)), (h + 1 + 7, .inl (.int, 6))] [(h + 1, 0, h + 1 + 1), (h + 1, 1, h + 1 + 2), (h + 1, 2, h + 1 + 3), (h + 1, 3, h + 1 + 4), (h + 1, 4, h + 1 + 5), (h + 1, 5, h + 1 + 6), (h, 2, h + 1), (h, 3, h + 1 + 7)] (gNw G h (.inr 3) a) Gm) (hA : a0 ≤ a) : nwP a0 h c u v G.1 G.2.1 G.2.2.2.1 G.2.2.2.2 (gI (gR (gI (gI Gm h 0 u) h 1 v) 101 c (some h)) 100 7 (nI (c + 1))).1 (gI (gR (gI (gI Gm h 0 u) h 1 v) 101 c (some h)) 100 7 (nI (c + 1))).2.1 (gI (gR (gI (gI Gm h 0 u) h 1 v) 101 c (some h)) 100 7 (nI (c + 1))).2.2.2.1 (gI (gR (gI (gI Gm h 0 u) h 1 v) 101 c (some h)) 100 7 (nI (c + 1))).2.2.2.2 := by
  have k1 := b.2.2.2.1 (h + 1, .inl (.array .int, 6)) (by simp)
  have k2 := b.2.2.2.1 (h + 1 + 1, .inl (.int, 5)) (by simp)
  have k3 := b.2.2.2.1 (h + 1 + 2, .inl (.int, 5)) (by simp)
  have k4 := b.2.2.2.1 (h + 1 + 3, .inl (.int, 5)) (by simp)
  have k5 := b.2.2.2.1 (h + 1 + 4, .inl (.int, 5)) (by simp)
  have k6 := b.2.2.2.1 (h + 1 + 5, .inl (.int, 5)) (by simp)
  have k7 := b.2.2.2.1 (h + 1 + 6, .inl (.int, 5)) (by simp)
  have k8 := b.2.2.2.1 (h + 1 + 7, .inl (.int, 6)) (by simp)
  have r0 := (b.2.2.2.2 (h + 1, 0, h + 1 + 1) (by simp)).1
  have r1 := (b.2.2.2.2 (h + 1, 1, h + 1 + 2) (by simp)).1
  have r2 := (b.2.2.2.2 (h + 1, 2, h + 1 + 3) (by simp)).1
  have r3 := (b.2.2.2.2 (h + 1, 3, h + 1 + 4) (by simp)).1
  have r4 := (b.2.2.2.2 (h + 1, 4, h + 1 + 5) (by simp)).1
  have r5 := (b.2.2.2.2 (h + 1, 5, h + 1 + 6) (by simp)).1
  have r6 := (b.2.2.2.2 (h, 2, h + 1) (by simp)).1
  have r7 := (b.2.2.2.2 (h, 3, h + 1 + 7) (by simp)).1
  have ho := b.old
  have hS6 : Gm.1 h = some (.inr 3) := ho.1.trans (va_up_same _ _ _)
  have hSA : a0 ≤ Gm.2.2.2.2 h := by rw [ho.2.1, show (gNw G h (.inr 3) a).2.2.2.2 h = a from va_up_same _ _ _]; exact hA
  have hSI : ∀ j, Gm.2.1 h j = 0 := fun j => by rw [ho.2.2.2, show (gNw G h (.inr 3) a).2.1 h = fun _ => 0 from va_up_same _ _ _]
  have gR1 : ∀ q, q ≠ 101 → (gI (gR (gI (gI Gm h 0 u) h 1 v) 101 c (some h)) 100 7 (nI (c + 1))).2.2.2.1 q = Gm.2.2.2.1 q := fun q hq => va_up_other _ _ hq
  have gI1 : ∀ q, q ≠ 100 → q ≠ h → (gI (gR (gI (gI Gm h 0 u) h 1 v) 101 c (some h)) 100 7 (nI (c + 1))).2.1 q = Gm.2.1 q := fun q h1 h2 => by
    show va_up (va_up (va_up Gm.2.1 h _) h _) 100 _ q = _
    rw [va_up_other _ _ h1, va_up_other _ _ h2, va_up_other _ _ h2]
  have m101 := b.2.1 101 (by omega)
  have m100 := b.2.1 100 (by omega)
  have x101 : Gm.2.2.2.1 101 = G.2.2.2.1 101 := by rw [m101.2.2.2.2 (by omega)]; exact va_up_other _ _ (by omega)
  have x100 : Gm.2.1 100 = G.2.1 100 := by rw [m100.2.2.2.1]; exact va_up_other _ _ (by omega)
  have hh1 : h ≠ 101 := by omega
  have hh0 : h ≠ 100 := by omega
  refine ⟨fun q hq => ?_, ?_, ?_, fun p j q e => ?_, ?_, ?_⟩
  · have h1 := b.2.1 q (by omega)
    have hqS : q ≠ h := by omega
    refine ⟨h1.1.trans (va_up_other _ _ hqS), h1.2.1.trans (va_up_other _ _ hqS), fun h9 => ?_, fun h9 => ?_⟩
    · rw [gR1 q h9, h1.2.2.2.2 hqS]; exact va_up_other _ _ hqS
    · rw [gI1 q h9 hqS, h1.2.2.2.1]; exact va_up_other _ _ hqS
  · show va_up Gm.2.2.2.1 101 _ 101 = _
    rw [va_up_same]
    show va_up (Gm.2.2.2.1 101) c (some h) = _
    rw [x101]
  · rw [show (gI (gR (gI (gI Gm h 0 u) h 1 v) 101 c (some h)) 100 7 (nI (c + 1))).2.1 100 = upd ((gI (gI Gm h 0 u) h 1 v).2.1 100) 7 (nI (c + 1)) from va_up_same (gI (gI Gm h 0 u) h 1 v).2.1 100 (upd ((gI (gI Gm h 0 u) h 1 v).2.1 100) 7 (nI (c + 1))), show (gI (gI Gm h 0 u) h 1 v).2.1 100 = (gI Gm h 0 u).2.1 100 from va_up_other _ _ (Ne.symm hh0), show (gI Gm h 0 u).2.1 100 = Gm.2.1 100 from va_up_other _ _ (Ne.symm hh0), x100]
  · have h9 : Gm.2.2.2.1 p j = some q → G.2.2.2.1 p j = some q ∨ (h ≤ q ∧ q < h + 9) := by
      intro e
      rcases b.2.2.1 p j q e with e | e
      · by_cases hp : p = h
        · subst hp
          rw [show (gNw G p (.inr 3) a).2.2.2.1 p = fun _ => none from va_up_same _ _ _] at e
          cases e
        · rw [show (gNw G h (.inr 3) a).2.2.2.1 p = G.2.2.2.1 p from va_up_other _ _ hp] at e
          exact Or.inl e
      · exact Or.inr (by omega)
    by_cases hp : p = 101
    · subst hp
      have e : va_up Gm.2.2.2.1 101 (va_up (Gm.2.2.2.1 101) c (some h)) 101 j = some q := e
      rw [va_up_same] at e
      by_cases hj : j = c
      · subst hj
        rw [va_up_same] at e
        cases e
        exact Or.inr (by omega)
      · rw [va_up_other _ _ hj] at e
        exact h9 e
    · rw [gR1 p hp] at e
      exact h9 e
  · refine ⟨⟨hS6, hSA⟩, ⟨k1.1, k1.2.2.1⟩, ⟨k8.1, k8.2.2.1⟩, ?_, ?_, fun m hm => ?_⟩
    · rw [gR1 h hh1]; exact r6
    · rw [gR1 h hh1]; exact r7
    · rw [gR1 (h + 1) (by omega)]
      rcases (show m = 0 ∨ m = 1 ∨ m = 2 ∨ m = 3 ∨ m = 4 ∨ m = 5 by omega) with rfl | rfl | rfl | rfl | rfl | rfl
      · exact ⟨r0, k2.1, k2.2.2.1⟩
      · exact ⟨r1, k3.1, k3.2.2.1⟩
      · exact ⟨r2, k4.1, k4.2.2.1⟩
      · exact ⟨r3, k5.1, k5.2.2.1⟩
      · exact ⟨r4, k6.1, k6.2.2.1⟩
      · exact ⟨r5, k7.1, k7.2.2.1⟩
  · have hz : ∀ q, q ≠ 100 → q ≠ h → (∀ j, Gm.2.1 q j = iv0 q j) → ∀ j, (gI (gR (gI (gI Gm h 0 u) h 1 v) 101 c (some h)) 100 7 (nI (c + 1))).2.1 q j = 0 := fun q h1 h2 h3 j => by rw [gI1 q h1 h2]; exact h3 j
    have hH : (gI (gR (gI (gI Gm h 0 u) h 1 v) 101 c (some h)) 100 7 (nI (c + 1))).2.1 h = upd (upd (Gm.2.1 h) 0 u) 1 v := by
      show va_up (va_up (va_up Gm.2.1 h _) h _) 100 _ h = _
      rw [va_up_other _ _ hh0, va_up_same]
      show upd (va_up Gm.2.1 h _ h) 1 v = _
      rw [va_up_same]
    refine ⟨⟨?_, ?_, ?_, ?_⟩, fun m hm => hz (h + 8) (by omega) (by omega) k8.2.2.2.1 m, fun m hm k hk => ?_, Nat.zero_le _, fun _ => Nat.zero_le _, fun _ _ => Nat.zero_le _, fun _ _ => rfl⟩
    · rw [hH]; exact knw_0 hu
    · rw [hH]; exact knw_0 hv
    · rw [hH]; exact hSI 4
    · rw [hH]; exact hSI 5
    · rcases (show m = 0 ∨ m = 1 ∨ m = 2 ∨ m = 3 ∨ m = 4 ∨ m = 5 by omega) with rfl | rfl | rfl | rfl | rfl | rfl
      · exact hz (h + 2) (by omega) (by omega) k2.2.2.2.1 k
      · exact hz (h + 3) (by omega) (by omega) k3.2.2.2.1 k
      · exact hz (h + 4) (by omega) (by omega) k4.2.2.2.1 k
      · exact hz (h + 5) (by omega) (by omega) k5.2.2.2.1 k
      · exact hz (h + 6) (by omega) (by omega) k6.2.2.2.1 k
      · exact hz (h + 7) (by omega) (by omega) k7.2.2.2.1 k
theorem XSid.ext {T T1 : Nat → Option hKd} {I J : Nat → Nat → Int32} {R R1 : Nat → Nat → Option Nat} {A A1 : Nat → Nat} {a0 s : Nat} {w : wS} (h : XSid T I R A a0 s w) (hR : R1 102 s = R 102 s) (e : ∀ q, 300 + 20 * s ≤ q → q < 300 + 20 * s + 12 → T1 q = T q ∧ R1 q = R q ∧ A1 q = A q ∧ J q = I q) : XSid T1 J R1 A1 a0 s w := by
  have k := XSid.fr (J := J) h fr121.rf (fun q a b => (e q a b).2.2.2)
  exact ⟨hR.trans h.1, isSd.ext h.2.1 (fun q a b => ⟨(e q a b).1, (e q a b).2.1, (e q a b).2.2.1⟩), k.2.2⟩
theorem XPat.ext {T T1 : Nat → Option hKd} {I J : Nat → Nat → Int32} {R R1 : Nat → Nat → Option Nat} {A A1 : Nat → Nat} {a0 p : Nat} {w : wP} {hs : Bool} (h : XPat T I R A a0 p w hs) (hR : R1 101 p = R 101 p) (e : ∀ q, 200 + 10 * p ≤ q → q < 200 + 10 * p + 10 → T1 q = T q ∧ R1 q = R q ∧ A1 q = A q ∧ J q = I q) : XPat T1 J R1 A1 a0 p w hs := ⟨hR.trans h.1, isPt.ext h.2.1 (fun q a b => ⟨(e q a b).1, (e q a b).2.1, (e q a b).2.2.1⟩), ptI.ext h.2.2 (fun q a b => (e q a b).2.2.2)⟩
theorem XRow.ext {I J : Nat → Nat → Int32} {q c : Nat} {r : wR} (h : XRow I q c r) (h1 : J q = I q) (h2 : J c = I c) : XRow J q c r := ⟨by rw [h1]; exact h.1, fun j hj => by rw [h2]; exact h.2 j hj⟩
theorem XR.newP {a0 : Nat} {sa : Nat → Nat} {W : wW} {T T1 : Nat → Option hKd} {I I1 : Nat → Nat → Int32} {R R1 : Nat → Nat → Option Nat} {A A1 : Nat → Nat} {u v : Int32} (h : XR a0 sa W T I R A) (hP : PI W) (h8 : wnp W < 8) (n : nwP a0 (200 + 10 * wnp W) (wnp W) u v T I R A T1 I1 R1 A1) : XR a0 sa (wnp W + 1, upN (wpt W) (wnp W) (knw u v, 0, fun _ => 0, fun _ _ => 0), W.2.2) T1 I1 R1 A1 := by
  obtain ⟨⟨x1, x2, ⟨c1, c2, c3, c4, cc⟩, x4, x5⟩, ⟨h2, h3, h4⟩, h5, h6, h7, h8', h9⟩ := h
  obtain ⟨n1, n2, n3, n4, n5, n6⟩ := n
  have hn4 := hP.1.2
  have hc : wnp W < 8 := h8
  generalize hcn : wnp W = c at *
  have eI : ∀ q, q < 200 → q ≠ 100 → I1 q = I q := fun q a b => (n1 q (by omega)).2.2.2 b
  refine ⟨⟨isX.ext2 x1 (fun q hq => ⟨(n1 q (by omega)).1, (n1 q (by omega)).2.1, fun a _ => (n1 q (by omega)).2.2.1 a⟩), fun k hk => by rw [x2 k hk]; exact (n1 (90 + k) (by omega)).2.1.symm, ⟨c1, c2, c3, c4, cc.ext ((n1 121 (by omega)).2.2.1 (by decide))⟩, ?_, ?_⟩, ⟨h2.ext (fun q a b => eI q (by omega) (by omega)), ?_, ?_⟩, fun p hp => ?_, fun s hs => ?_, h7.ext (eI _ (by decide) (by decide)) (eI _ (by decide) (by decide)), h8'.ext (eI _ (by decide) (by decide)) (eI _ (by decide) (by decide)), h9.ext (eI _ (by decide) (by decide)) (eI _ (by decide) (by decide))⟩
  · intro q a b
    have a : 200 + 10 * (c + 1) ≤ q := a
    refine ⟨(n1 q (by omega)).1.trans (x4 q (by omega) b).1, fun p j e => ?_⟩
    rcases n4 p j q e with e | e
    · exact (x4 q (by omega) b).2 p j e
    · omega
  · intro q a b
    have a : 300 + 20 * wns W ≤ q := a
    refine ⟨(n1 q (by omega)).1.trans (x5 q a b).1, fun p j e => ?_⟩
    rcases n4 p j q e with e | e
    · exact (x5 q a b).2 p j e
    · omega
  · rw [n3]; simp [upd]
  · rw [n3]; simp [upd]; exact h4
  · have hp : p < c + 1 := hp
    show XPat T1 I1 R1 A1 a0 p (upN (wpt W) c _ p) (hsW W p)
    by_cases e : p = c
    · subst e
      rw [upN_s]
      have hf : hsW W p = false := Bool.eq_false_iff.mpr (fun e => by
        obtain ⟨s, a, b⟩ := hsW_iff.mp e
        have := (hP.2.2.2.2.2 s a).1
        omega)
      rw [hf]
      exact ⟨by rw [n2, va_up_same], n5, n6⟩
    · rw [upN_o e]
      exact (h5 p (by omega)).ext (by rw [n2, va_up_other _ _ e]) (fun q a b => ⟨(n1 q (by omega)).1, (n1 q (by omega)).2.2.1 (by omega), (n1 q (by omega)).2.1, (n1 q (by omega)).2.2.2 (by omega)⟩)
  · have hs : s < wns W := hs
    exact (h6 s hs).ext (by rw [(n1 102 (by omega)).2.2.1 (by decide)]) (fun q a b => ⟨(n1 q (by omega)).1, (n1 q (by omega)).2.2.1 (by omega), (n1 q (by omega)).2.1, (n1 q (by omega)).2.2.2 (by omega)⟩)
theorem ptI.hs {I J : Nat → Nat → Int32} {P ms : Nat} {kn : Nat → Bool} {sz : Nat → Nat} {tk : Nat → Nat → Nat} {hs : Bool} (h : ptI I P kn ms sz tk hs) (e : J P = upd (I P) 5 (nI 1)) (f : ∀ q, P < q → q < P + 10 → J q = I q) : ptI J P kn ms sz tk true := by
  refine ⟨?_, fun m hm => ?_, fun m hm k hk => ?_, h.2.2.2⟩
  · rw [e]; exact ⟨h.1.1, h.1.2.1, h.1.2.2.1, rfl⟩
  · rw [f (P + 8) (by omega) (by omega)]; exact h.2.1 m hm
  · rw [f (P + 2 + m) (by omega) (by omega)]; exact h.2.2.1 m hm k hk
theorem hsW_A {W : wW} {w : wS} (p : Nat) : hsW (addS W w) p = (hsW W p || decide (sPa w = p)) := by
  apply Bool.eq_iff_iff.mpr
  rw [Bool.or_eq_true, hsW_iff, hsW_iff, decide_eq_true_eq]
  show (∃ s, s < wns W + 1 ∧ sPa (upN (wsd W) (wns W) w s) = p) ↔ _
  constructor
  · rintro ⟨s, a, b⟩
    by_cases e : s = wns W
    · rw [e, upN_s] at b; exact Or.inr b
    · rw [upN_o e] at b; exact Or.inl ⟨s, by omega, b⟩
  · rintro (⟨s, a, b⟩ | b)
    · exact ⟨s, by omega, by rw [upN_o (by omega)]; exact b⟩
    · exact ⟨wns W, by omega, by rw [upN_s]; exact b⟩
theorem XR.mkS {a0 p ha : Nat} {sa : Nat → Nat} {W : wW} {T T1 : Nat → Option hKd} {I I1 I' : Nat → Nat → Int32} {R R1 R' : Nat → Nat → Option Nat} {A A1 : Nat → Nat} {sv ov ev : Int32} (h : XR a0 sa W T I R A) (hP : PI W) (h4 : wns W < 4) (hp : p < wnp W) (n : nwS a0 (300 + 20 * wns W) (200 + 10 * p) p ha ev T I R A T1 I1 R1 A1) (m : mdS (300 + 20 * wns W) (200 + 10 * p) ha sv ov (pKn (wpt W p)) (wns W) I1 R1 I' R') : XR a0 sa (addS W (newS W p ha sv ov ev)) T1 I' R' A1 := by
  obtain ⟨⟨x1, x2, ⟨c1, c2, c3, c4, cc⟩, x4, x5⟩, ⟨h2, h3, h8'⟩, h5, h6, h7, h8, h9⟩ := h
  obtain ⟨n1, n2, n3, n4, n5⟩ := n
  obtain ⟨m1, m2, m3, m4, m5, m6, m7, m8, m9, m10, m11, m12⟩ := m
  have hn8 := hP.1.1
  generalize hcn : wns W = c at *
  have oR : ∀ q, q ≠ 121 → q ≠ 102 → ¬ (300 + 20 * c ≤ q ∧ q < 300 + 20 * c + 12) → R' q = R q := fun q a b d => (m9 q a b).trans (n1 q d).2.1
  have oI : ∀ q, q < 300 → q ≠ 100 → q ≠ 200 + 10 * p → ¬ (111 ≤ q ∧ q ≤ 151) → I' q = I q := fun q a b d e => (m8 q (by simp; omega)).trans (n1 q (by omega)).2.2.2
  have oJ : ∀ q, 300 ≤ q → ¬ (300 + 20 * c ≤ q ∧ q < 300 + 20 * c + 12) → I' q = I q := fun q a d => (m8 q (by simp; omega)).trans (n1 q d).2.2.2
  have key : ∀ q, q ≠ 200 + 10 * p → ¬ (300 + 20 * c ≤ q ∧ q < 300 + 20 * c + 12) → 200 ≤ q → (∀ p j, R p j ≠ some q) → ∀ p j, R' p j ≠ some q := by
    intro q a b d F p' j e
    have go : R1 p' j = some q → False := fun e => by
      rcases n2 p' j q e with e | e | e
      · exact F _ _ e
      · exact b e
      · exact a e
    by_cases e1 : p' = 121
    · subst e1
      obtain ⟨p1, p2, p3, p4, hc⟩ := m12
      rcases (show j < 2 ∨ 5 < j ∨ j = 2 ∨ j = 3 ∨ j = 4 ∨ j = 5 by omega) with hj | hj | rfl | rfl | rfl | rfl
      · rw [m10 j (Or.inl hj)] at e; exact go e
      · rw [m10 j (Or.inr hj)] at e; exact go e
      · rw [hc.1.1] at e; cases e; have := hc.2.1; omega
      · rw [hc.1.2.1] at e; cases e; have := hc.2.1; omega
      · rw [hc.1.2.2.1] at e; cases e; have := hc.2.1; omega
      · rw [hc.1.2.2.2] at e; cases e; have := hc.2.1; omega
    · by_cases e2 : p' = 102
      · subst e2
        rw [m11] at e
        by_cases e3 : j = c
        · subst e3; rw [va_up_same] at e; cases e; omega
        · rw [va_up_other _ _ e3] at e; exact go e
      · rw [m9 p' e1 e2] at e; exact go e
  have hx1 : isX T1 R1 A1 a0 := isX.ext x1 (fun q hq => ⟨(n1 q (by omega)).1, (n1 q (by omega)).2.1, (n1 q (by omega)).2.2.1⟩)
  have hx2 : isX T1 (fun q => if q = 102 then R1 q else R' q) A1 a0 := isX.r121 hx1 ⟨fun q hq => by
    show (if q = 102 then R1 q else R' q) = R1 q
    split
    · rfl
    · rename_i h; exact m9 q hq h, fun k hk => by
    show (if 121 = 102 then R1 121 else R' 121) k = R1 121 k
    rw [if_neg (by decide)]; exact m10 k hk⟩
  refine ⟨⟨isX.ext2 hx2 (fun q hq => ⟨rfl, rfl, fun _ b => by show R' q = (if q = 102 then R1 q else R' q); rw [if_neg b]⟩), fun k hk => by rw [x2 k hk]; exact (n1 (90 + k) (by omega)).2.2.1.symm, m12, ?_, ?_⟩, ⟨h2.ext (fun q a b => oI q (by omega) (by omega) (by omega) (by omega)), ?_, ?_⟩, fun p' hp' => ?_, fun s hs => ?_, h7.ext (oI _ (by decide) (by decide) (by omega) (by decide)) (oI _ (by decide) (by decide) (by omega) (by decide)), h8.ext (oI _ (by decide) (by decide) (by omega) (by decide)) (oI _ (by decide) (by decide) (by omega) (by decide)), h9.ext (oI _ (by decide) (by decide) (by omega) (by decide)) (oI _ (by decide) (by decide) (by omega) (by decide))⟩
  · intro q a b
    have a : 200 + 10 * wnp W ≤ q := a
    exact ⟨(n1 q (by omega)).1.trans (x4 q a b).1, key q (by omega) (by omega) (by omega) (x4 q a b).2⟩
  · intro q a b
    have a : 300 + 20 * (wns W + 1) ≤ q := a
    exact ⟨(n1 q (by omega)).1.trans (x5 q (by omega) b).1, key q (by omega) (by omega) (by omega) (x5 q (by omega) b).2⟩
  · rw [m7, (n1 100 (by omega)).2.2.2]; simp [upd]; exact h3
  · rw [m7]; show upd _ _ _ _ = nI (wns W + 1); rw [hcn]; simp [upd]
  · have hp' : p' < wnp W := hp'
    show XPat T1 I' R' A1 a0 p' (wpt W p') (hsW (addS W (newS W p ha sv ov ev)) p')
    rw [hsW_A]
    have k := h5 p' hp'
    have k1 : R' 101 p' = R 101 p' := by rw [oR 101 (by decide) (by decide) (by omega)]
    by_cases e : p' = p
    · subst e
      rw [show (hsW W p' || decide (sPa (newS W p' ha sv ov ev) = p')) = true by rw [decide_eq_true (show sPa (newS W p' ha sv ov ev) = p' from rfl), Bool.or_true]]
      refine ⟨k1.trans k.1, isPt.ext k.2.1 (fun q a b => ⟨(n1 q (by omega)).1, oR q (by omega) (by omega) (by omega), (n1 q (by omega)).2.2.1⟩), ptI.hs k.2.2 (by rw [m6, (n1 _ (by omega)).2.2.2]) (fun q a b => oI q (by omega) (by omega) (by omega) (by omega))⟩
    · rw [show (hsW W p' || decide (sPa (newS W p ha sv ov ev) = p')) = hsW W p' by rw [decide_eq_false (show ¬ sPa (newS W p ha sv ov ev) = p' from fun h => e h.symm), Bool.or_false]]
      exact k.ext k1 (fun q a b => ⟨(n1 q (by omega)).1, oR q (by omega) (by omega) (by omega), (n1 q (by omega)).2.2.1, oI q (by omega) (by omega) (by omega) (by omega)⟩)
  · have hs : s < wns W + 1 := hs
    show XSid T1 I' R' A1 a0 s (upN (wsd W) (wns W) _ s)
    rw [hcn] at hs ⊢
    by_cases e : s = c
    · subst e
      rw [upN_s]
      refine ⟨by rw [m11, va_up_same], isSd.ext n3 (fun q a b => ⟨rfl, m9 q (by omega) (by omega), rfl⟩), ⟨by rw [m5.1]; exact n4.1, by rw [m5.2.1]; exact n4.2.1, by rw [m5.2.2.1]; exact n4.2.2.1, m5.2.2.2⟩, ⟨m2, m3, m4⟩, m1⟩
    · rw [upN_o e]
      exact (h6 s (by omega)).ext (by rw [m11, va_up_other _ _ e, (n1 102 (by omega)).2.1]) (fun q a b => ⟨(n1 q (by omega)).1, oR q (by omega) (by omega) (by omega), (n1 q (by omega)).2.2.1, oJ q (by omega) (by omega)⟩)
