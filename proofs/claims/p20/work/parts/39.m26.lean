/-- x2, z2, x3, z3 of the curve stand in p, q, r, s, which are 124 .. 127 in some order -/
def cv4 (R : Nat → Nat → Option Nat) (p q r s : Nat) : Prop := (R 121 2 = some p ∧ R 121 3 = some q ∧ R 121 4 = some r ∧ R 121 5 = some s) ∧ ((124 ≤ p ∧ p ≤ 127) ∧ (124 ≤ q ∧ q ≤ 127) ∧ (124 ≤ r ∧ r ≤ 127) ∧ (124 ≤ s ∧ s ≤ 127)) ∧ p ≠ q ∧ p ≠ r ∧ p ≠ s ∧ q ≠ r ∧ q ≠ s ∧ r ≠ s
def fr121 (R R' : Nat → Nat → Option Nat) : Prop := (∀ q, q ≠ 121 → R' q = R q) ∧ ∀ k, k < 2 ∨ 5 < k → R' 121 k = R 121 k
theorem fr121.rf {R : Nat → Nat → Option Nat} : fr121 R R := ⟨fun _ _ => rfl, fun _ _ => rfl⟩
theorem fr121.tr {R S U : Nat → Nat → Option Nat} (h : fr121 R S) (k : fr121 S U) : fr121 R U := ⟨fun q hq => (k.1 q hq).trans (h.1 q hq), fun j hj => (k.2 j hj).trans (h.2 j hj)⟩
theorem fr121.isX {T : Nat → Option hKd} {R R' : Nat → Nat → Option Nat} {A : Nat → Nat} {a0 : Nat} (h : fr121 R R') (x : isX T R A a0) : isX T R' A a0 := x.ref h.1 h.2
abbrev q4 : Type := (Nat → Int) × (Nat → Int) × (Nat → Int) × (Nat → Int)
def scl (f : Nat → Int32) (j : Nat) : Int32 := if j = 0 then f 0 &&& nI 248 else if j = 31 then (f 31 &&& nI 127) ||| nI 64 else f j
def bitS (s : Nat → Int32) (i : Nat) : Bool := decide (isr (s (i / 2 ^ 3)) (nI (i % 2 ^ 3)) &&& nI 1 = nI 1)
def cOne (j : Nat) : Int := if j = 0 then 1 else 0
def cZer (_ : Nat) : Int := 0
def stQ (x1 : Nat → Int) (q : q4) : q4 := stepF x1 q.1 q.2.1 q.2.2.1 q.2.2.2
def swQ (q : q4) : q4 := (q.2.2.1, q.2.2.2, q.1, q.2.1)
def ladF (x1 : Nat → Int) (bt : Nat → Bool) : Nat → q4 × Bool
  | 0 => ((cOne, cZer, x1, cOne), false)
  | n + 1 => (stQ x1 (if bt (254 - n) = (ladF x1 bt n).2 then (ladF x1 bt n).1 else swQ (ladF x1 bt n).1), bt (254 - n))
def q4B (q : q4) : Prop := cvB q.1 ∧ cvB q.2.1 ∧ cvB q.2.2.1 ∧ cvB q.2.2.2
theorem one_b : cvB cOne := fun i _ => by unfold cOne; by_cases e : i % 2 = 0 <;> by_cases z : i = 0 <;> simp [e, z] <;> omega
theorem zer_b : cvB cZer := fun i _ => by unfold cZer; by_cases e : i % 2 = 0 <;> simp [e]
theorem stQ_b {x1 : Nat → Int} {q : q4} (h1 : cvB x1) (h : q4B q) : q4B (stQ x1 q) := by
  obtain ⟨a, b, c, d⟩ := h
  have A := a.add b; have B := a.sub b; have C := c.add d; have D := c.sub d
  have DA := D.mul A; have CB := C.mul B; have AA := A.mul A; have BB := B.mul B
  have E := AA.sub BB
  exact ⟨AA.w.mul BB.w, E.mul (AA.add E.sc), (DA.add CB).mul (DA.add CB), h1.w.mul ((DA.sub CB).mul (DA.sub CB)).w⟩
theorem swQ_b {q : q4} (h : q4B q) : q4B (swQ q) := ⟨h.2.2.1, h.2.2.2, h.1, h.2.1⟩
theorem ladF_b {x1 : Nat → Int} (bt : Nat → Bool) (h : cvB x1) : ∀ n, q4B (ladF x1 bt n).1
  | 0 => ⟨one_b, zer_b, h, one_b⟩
  | n + 1 => by
    have ih := ladF_b bt h n
    simp only [ladF]
    split
    · exact stQ_b h ih
    · exact stQ_b h (swQ_b ih)
/-- what the class' curve makes of a secret and a point's bytes -/
def mpQ (s : Nat → Int32) (b : Nat → Nat) : q4 := (ladF (upF b) (bitS (scl s)) 255).1
def mpF (s : Nat → Int32) (b : Nat → Nat) (j : Nat) : Int32 := nI (packF (cvCar (fMul (mpQ s b).1 (fPw (mpQ s b).2.1 254))) j)
set_option maxHeartbeats 4000000 in
set_option maxRecDepth 100000 in
theorem ok_X1_multiplyPoint {l : Launch} {a0 : Nat} {D : va_G} {sa : Nat → Nat} {T : Nat → Option hKd} {I : Nat → Nat → Int32} {L : Nat → Nat → Int64} {R : Nat → Nat → Option Nat} {A : Nat → Nat} (xO0 : isX T R A a0) (hsa : ∀ k, k < 5 → sa k = A (90 + k)) (p q r s : Nat) (h4 : cv4 R p q r s) (a na c nc u nu : Nat) (b : Nat → Nat) (hTa : T a = some (.inl (.int, na))) (hna : na < 2 ^ 31) (hna2 : 32 ≤ na) (hTc : T c = some (.inl (.int, nc))) (hnc : nc < 2 ^ 31) (hnc2 : 32 ≤ nc) (hc : c ≠ 122) (hTu : T u = some (.inl (.int, nu))) (hu0 : a0 ≤ A u) (hnu : nu < 2 ^ 31) (hnu2 : 32 ≤ nu) (hu : u ≠ 122) (hb : ∀ j, j < 32 → I c j = nI (b j) ∧ b j < 256) : hM l a0 D sa yX1_multiplyPoint cX1_multiplyPoint 7 none { frames := 4, cells := 0, slots := 0, locals := 158 } [.ref (A 121), .ref (A a), .ref (A c), .ref (A u)] (T, I, L, R, A) (fun v G' => v = none ∧ ∃ I' L' R', G' = (T, I', L', R', A) ∧ I' u = (fun t => if t < 32 then mpF (I a) b t else I u t) ∧ fx [122, u] I I' ∧ fr121 R R' ∧ ∃ p q r s, cv4 R' p q r s) := by
  refine hM.of (by decide +kernel) (Nat.le_of_ble_eq_true rfl) ?_
  intro z hl h0 hD hS hN C E
  subst hl; subst h0; subst hD; subst hS
  have C : hC z RX1 cX1_multiplyPoint := C
  have hZ := E.2.2.2.1
  show hX z 0 0 (T, I, L, R, A) [(0, .ref (A 121)), (1, .ref (A a)), (2, .ref (A c)), (3, .ref (A u))] 0 []
  have fR : fr121 R R := fr121.rf
  obtain ⟨⟨hRp, hRq, hRr, hRs⟩, ⟨hp, hq, hr, hs⟩, hpq, hpr, hps, hqr, hqs, hrs⟩ := h4
  have xO := fR.isX xO0
  refine x_aload_n C dX1_multiplyPoint_0 1 rfl rfl ?_
  refine x_aload_n C dX1_multiplyPoint_1 0 rfl rfl ?_
  refine x_getrN C fl_X1_9 (xO.1 121 _ rfl).1 rfl (xO.2.1 121 0 _ rfl) dX1_multiplyPoint_2 ?_
  refine x_callSN C (ok_X10_copyKey a 122 na 32 hTa (xO.1 122 _ rfl).1 (xO.1 122 _ rfl).2 hna (by decide) hna2 (by decide)) ms_X10_copyKey ml_X1_43 rfl rfl (Nat.le_of_ble_eq_true rfl) (hrm (rm := { frames := 0, cells := 0, slots := 0, locals := 0 }) hZ ⟨Nat.le_of_ble_eq_true rfl, Nat.le_of_ble_eq_true rfl⟩) (hcs hZ ⟨Nat.le_of_ble_eq_true rfl, Nat.le_of_ble_eq_true rfl⟩) dX1_multiplyPoint_5 (fun v G' hp => ?_)
  obtain ⟨rfl, rfl⟩ := hp
  show hX z 0 0 (T, (va_up I 122 (fun j => if j < 32 then I a j else I 122 j)), L, R, A) [(0, .ref (A 121)), (1, .ref (A a)), (2, .ref (A c)), (3, .ref (A u))] 8 []
  refine x_aload_n C dX1_multiplyPoint_8 0 rfl rfl ?_
  refine x_getrN C fl_X1_9 (xO.1 121 _ rfl).1 rfl (xO.2.1 121 0 _ rfl) dX1_multiplyPoint_9 ?_
  refine x_iconst (v := nI 0) C dX1_multiplyPoint_12 (by decide +kernel) ?_
  refine x_dup2 C dX1_multiplyPoint_13 rfl rfl ?_
  refine x_ialdN C (xO.1 122 _ rfl).1 (by omega) (by omega) dX1_multiplyPoint_14 ?_
  refine x_sipush (v := nI 248) C dX1_multiplyPoint_15 (by decide +kernel) ?_
  refine x_iand C dX1_multiplyPoint_18 ?_
  refine x_iastN C (xO.1 122 _ rfl).1 (xO.1 122 _ rfl).2 (by omega) (by omega) dX1_multiplyPoint_19 (fun I1 eI1 => ?_)
  refine x_aload_n C dX1_multiplyPoint_20 0 rfl rfl ?_
  refine x_getrN C fl_X1_9 (xO.1 121 _ rfl).1 rfl (xO.2.1 121 0 _ rfl) dX1_multiplyPoint_21 ?_
  refine x_bipush (v := nI 31) C dX1_multiplyPoint_24 (by decide +kernel) ?_
  refine x_aload_n C dX1_multiplyPoint_26 0 rfl rfl ?_
  refine x_getrN C fl_X1_9 (xO.1 121 _ rfl).1 rfl (xO.2.1 121 0 _ rfl) dX1_multiplyPoint_27 ?_
  refine x_bipush (v := nI 31) C dX1_multiplyPoint_30 (by decide +kernel) ?_
  refine x_ialdN C (xO.1 122 _ rfl).1 (by omega) (by omega) dX1_multiplyPoint_32 ?_
  refine x_bipush (v := nI 127) C dX1_multiplyPoint_33 (by decide +kernel) ?_
  refine x_iand C dX1_multiplyPoint_35 ?_
  refine x_bipush (v := nI 64) C dX1_multiplyPoint_36 (by decide +kernel) ?_
  refine x_ior C dX1_multiplyPoint_38 ?_
  refine x_iastN C (xO.1 122 _ rfl).1 (xO.1 122 _ rfl).2 (by omega) (by omega) dX1_multiplyPoint_39 (fun I2 eI2 => ?_)
  refine x_aload_n C dX1_multiplyPoint_40 2 rfl rfl ?_
  refine x_aload_n C dX1_multiplyPoint_41 0 rfl rfl ?_
  refine x_getrN C fl_X1_15 (xO.1 121 _ rfl).1 rfl (xO.2.1 121 1 _ rfl) dX1_multiplyPoint_42 ?_
  refine x_callS C (ok_X1_unpack c nc 123 b hTc hnc hnc2 (xO.1 123 _ rfl).1 (xO.1 123 _ rfl).2 (fun j hj => by rw [eI2, up_ne _ _ hc, eI1, up_ne _ _ hc, up_ne _ _ hc]; exact hb j hj)) ms_X1_unpack ml_X1_47 rfl rfl (Nat.le_of_ble_eq_true rfl) (hrm (rm := { frames := 0, cells := 0, slots := 0, locals := 0 }) hZ ⟨Nat.le_of_ble_eq_true rfl, Nat.le_of_ble_eq_true rfl⟩) (hcs hZ ⟨Nat.le_of_ble_eq_true rfl, Nat.le_of_ble_eq_true rfl⟩) dX1_multiplyPoint_45 (fun v G' hp => ?_)
  obtain ⟨rfl, K1, rfl, i1, g1⟩ := hp
  show hX z 0 0 (T, I2, K1, R, A) [(0, .ref (A 121)), (1, .ref (A a)), (2, .ref (A c)), (3, .ref (A u))] 48 []
  refine x_aload_n C dX1_multiplyPoint_48 0 rfl rfl ?_
  refine x_getrN C fl_X1_19 (xO.1 121 _ rfl).1 rfl hRp dX1_multiplyPoint_49 ?_
  refine x_iconst (v := nI 1) C dX1_multiplyPoint_52 (by decide +kernel) ?_
  refine x_callS C (ok_X1_setSmall p 1 (by decide) (cvT xO hp).1 (cvT xO hp).2) ms_X1_setSmall ml_X1_51 rfl rfl (Nat.le_of_ble_eq_true rfl) (hrm (rm := { frames := 0, cells := 0, slots := 0, locals := 0 }) hZ ⟨Nat.le_of_ble_eq_true rfl, Nat.le_of_ble_eq_true rfl⟩) (hcs hZ ⟨Nat.le_of_ble_eq_true rfl, Nat.le_of_ble_eq_true rfl⟩) dX1_multiplyPoint_53 (fun v G' hp => ?_)
  obtain ⟨rfl, K2, rfl, i2, g2⟩ := hp
  show hX z 0 0 (T, I2, K2, R, A) [(0, .ref (A 121)), (1, .ref (A a)), (2, .ref (A c)), (3, .ref (A u))] 56 []
  refine x_aload_n C dX1_multiplyPoint_56 0 rfl rfl ?_
  refine x_getrN C fl_X1_22 (xO.1 121 _ rfl).1 rfl hRq dX1_multiplyPoint_57 ?_
  refine x_iconst (v := nI 0) C dX1_multiplyPoint_60 (by decide +kernel) ?_
  refine x_callS C (ok_X1_setSmall q 0 (by decide) (cvT xO hq).1 (cvT xO hq).2) ms_X1_setSmall ml_X1_51 rfl rfl (Nat.le_of_ble_eq_true rfl) (hrm (rm := { frames := 0, cells := 0, slots := 0, locals := 0 }) hZ ⟨Nat.le_of_ble_eq_true rfl, Nat.le_of_ble_eq_true rfl⟩) (hcs hZ ⟨Nat.le_of_ble_eq_true rfl, Nat.le_of_ble_eq_true rfl⟩) dX1_multiplyPoint_61 (fun v G' hp => ?_)
  obtain ⟨rfl, K3, rfl, i3, g3⟩ := hp
  show hX z 0 0 (T, I2, K3, R, A) [(0, .ref (A 121)), (1, .ref (A a)), (2, .ref (A c)), (3, .ref (A u))] 64 []
  refine x_aload_n C dX1_multiplyPoint_64 0 rfl rfl ?_
  refine x_getrN C fl_X1_15 (xO.1 121 _ rfl).1 rfl (xO.2.1 121 1 _ rfl) dX1_multiplyPoint_65 ?_
  refine x_iconst (v := nI 0) C dX1_multiplyPoint_68 (by decide +kernel) ?_
  refine x_aload_n C dX1_multiplyPoint_69 0 rfl rfl ?_
  refine x_getrN C fl_X1_25 (xO.1 121 _ rfl).1 rfl hRr dX1_multiplyPoint_70 ?_
  refine x_iconst (v := nI 0) C dX1_multiplyPoint_73 (by decide +kernel) ?_
  refine x_bipush (v := nI 10) C dX1_multiplyPoint_74 (by decide +kernel) ?_
  refine x_copyl C (xO.1 123 _ rfl).1 (cvT xO hr).1 (cvT xO hr).2 (by omega) (by omega) (by omega) (by omega) ml_X1_55 (hrm (rm := { frames := 0, cells := 0, slots := 0, locals := 0 }) hZ ⟨Nat.le_of_ble_eq_true rfl, by decide +kernel⟩) dX1_multiplyPoint_76 (fun L3 eL3 => ?_)
  refine x_aload_n C dX1_multiplyPoint_79 0 rfl rfl ?_
  refine x_getrN C fl_X1_28 (xO.1 121 _ rfl).1 rfl hRs dX1_multiplyPoint_80 ?_
  refine x_iconst (v := nI 1) C dX1_multiplyPoint_83 (by decide +kernel) ?_
  refine x_callS C (ok_X1_setSmall s 1 (by decide) (cvT xO hs).1 (cvT xO hs).2) ms_X1_setSmall ml_X1_51 rfl rfl (Nat.le_of_ble_eq_true rfl) (hrm (rm := { frames := 0, cells := 0, slots := 0, locals := 0 }) hZ ⟨Nat.le_of_ble_eq_true rfl, Nat.le_of_ble_eq_true rfl⟩) (hcs hZ ⟨Nat.le_of_ble_eq_true rfl, Nat.le_of_ble_eq_true rfl⟩) dX1_multiplyPoint_84 (fun v G' hp => ?_)
  obtain ⟨rfl, K5, rfl, i5, g5⟩ := hp
  show hX z 0 0 (T, I2, K5, R, A) [(0, .ref (A 121)), (1, .ref (A a)), (2, .ref (A c)), (3, .ref (A u))] 87 []
  refine x_iconst (v := nI 0) C dX1_multiplyPoint_87 (by decide +kernel) ?_
  refine x_istore (lv' := [(4, .int (nI 0)), (0, .ref (A 121)), (1, .ref (A a)), (2, .ref (A c)), (3, .ref (A u))]) C dX1_multiplyPoint_88 (Nat.lt_of_lt_of_eq (by decide) hN.symm) rfl ?_
  refine x_sipush (v := nI 254) C dX1_multiplyPoint_90 (by decide +kernel) ?_
  refine x_istore (lv' := [(5, .int (nI 254)), (4, .int (nI 0)), (0, .ref (A 121)), (1, .ref (A a)), (2, .ref (A c)), (3, .ref (A u))]) C dX1_multiplyPoint_93 (Nat.lt_of_lt_of_eq (by decide) hN.symm) rfl ?_
  have L95 : ∀ (fuel_ : Nat) (m : Nat) (x : Int32) (sw : Int32) (p : Nat) (q : Nat) (r : Nat) (s : Nat) (K : Nat → Nat → Int64) (RK : Nat → Nat → Option Nat), m < fuel_ → (m ≤ 255) → (x = nI m - 1) → (sw = bI (ladF (upF b) (bitS (scl (I a))) (255 - m)).2) → (fr121 R RK) → (cv4 RK p q r s) → (∀ j, j < 10 → K 123 j = lZ ((upF b) j)) → (∀ j, j < 10 → K p j = lZ ((ladF (upF b) (bitS (scl (I a))) (255 - m)).1.1 j)) → (∀ j, j < 10 → K q j = lZ ((ladF (upF b) (bitS (scl (I a))) (255 - m)).1.2.1 j)) → (∀ j, j < 10 → K r j = lZ ((ladF (upF b) (bitS (scl (I a))) (255 - m)).1.2.2.1 j)) → (∀ j, j < 10 → K s j = lZ ((ladF (upF b) (bitS (scl (I a))) (255 - m)).1.2.2.2 j)) → hX z 0 0 (T, I2, K, RK, A) [(5, .int x), (4, .int sw), (0, .ref (A 121)), (1, .ref (A a)), (2, .ref (A c)), (3, .ref (A u))] 95 [] := by
    intro fuel_
    induction fuel_ with
    | zero => intro m x sw p q r s K RK hmz; exact absurd hmz (Nat.not_lt_zero _)
    | succ fuel_ ih95 =>
      intro m x sw p q r s K RK hmz hm5 hx hsw fR h4 hX1 hpv hqv hrv hsv
      obtain ⟨⟨hRp, hRq, hRr, hRs⟩, ⟨hp, hq, hr, hs⟩, hpq, hpr, hps, hqr, hqs, hrs⟩ := h4
      have xO := fR.isX xO0
      have hQ := ladF_b (bitS (scl (I a))) (upF_b b) (255 - m)
      have hscl : ∀ k, k < 32 → I2 122 k = scl (I a) k := fun k hk => by
        rw [eI2, up_eq]; unfold scl upd; rw [eI1, up_eq, up_eq]; unfold upd
        by_cases h31 : k = 31 <;> by_cases h0 : k = 0 <;> simp [h31, h0, hk] <;> omega
      refine x_iload C dX1_multiplyPoint_95 0 rfl ?_
      refine x_if_lt (tgt := 153) C dX1_multiplyPoint_97 (by decide) (fun c97 => ?_) (fun c97 => ?_)
      · have hm0 : m = 0 := (m1_lt m (by omega)).mp (by rw [← hx]; exact c97)
        subst hm0
        have hQ : q4B (ladF (upF b) (bitS (scl (I a))) 255).1 := hQ
        refine x_aload_n C dX1_multiplyPoint_153 2 rfl rfl ?_
        refine x_getrN C fl_X1_22 (xO.1 121 _ rfl).1 rfl hRq dX1_multiplyPoint_154 ?_
        refine x_aload_n C dX1_multiplyPoint_157 2 rfl rfl ?_
        refine x_getrN C fl_X1_31 (xO.1 121 _ rfl).1 rfl (xO.2.1 121 6 _ rfl) dX1_multiplyPoint_158 ?_
        refine x_callS C (ok_X1_invert q 128 ((ladF (upF b) (bitS (scl (I a))) 255).1.2.1) (cvT xO hq).1 (xO.1 128 _ rfl).1 (xO.1 128 _ rfl).2 (by omega) hqv hQ.2.1) ms_X1_invert ml_X1_67 rfl rfl (Nat.le_of_ble_eq_true rfl) (hrm (rm := { frames := 0, cells := 0, slots := 0, locals := 0 }) hZ ⟨Nat.le_of_ble_eq_true rfl, Nat.le_of_ble_eq_true rfl⟩) (hcs hZ ⟨Nat.le_of_ble_eq_true rfl, Nat.le_of_ble_eq_true rfl⟩) dX1_multiplyPoint_161 (fun v G' hp => ?_)
        obtain ⟨rfl, V1, rfl, v1, gv1⟩ := hp
        show hX z 0 0 (T, I2, V1, RK, A) [(5, .int x), (4, .int sw), (0, .ref (A 121)), (1, .ref (A a)), (2, .ref (A c)), (3, .ref (A u))] 164 []
        refine x_aload_n C dX1_multiplyPoint_164 2 rfl rfl ?_
        refine x_getrN C fl_X1_19 (xO.1 121 _ rfl).1 rfl hRp dX1_multiplyPoint_165 ?_
        refine x_aload_n C dX1_multiplyPoint_168 2 rfl rfl ?_
        refine x_getrN C fl_X1_31 (xO.1 121 _ rfl).1 rfl (xO.2.1 121 6 _ rfl) dX1_multiplyPoint_169 ?_
        refine x_aload_n C dX1_multiplyPoint_172 2 rfl rfl ?_
        refine x_getrN C fl_X1_19 (xO.1 121 _ rfl).1 rfl hRp dX1_multiplyPoint_173 ?_
        refine x_callS C (ok_X1_multiply p 128 p ((ladF (upF b) (bitS (scl (I a))) 255).1.1) (fPw ((ladF (upF b) (bitS (scl (I a))) 255).1.2.1) 254) (cvT xO hp).1 (xO.1 128 _ rfl).1 (cvT xO hp).1 (cvT xO hp).2 (fun j hj => by rw [gv1 p (by omega)]; exact hpv j hj) v1 hQ.1.w (fPw_b hQ.2.1 254).w) ms_X1_multiply ml_X1_71 rfl rfl (Nat.le_of_ble_eq_true rfl) (hrm (rm := { frames := 0, cells := 0, slots := 0, locals := 0 }) hZ ⟨Nat.le_of_ble_eq_true rfl, Nat.le_of_ble_eq_true rfl⟩) (hcs hZ ⟨Nat.le_of_ble_eq_true rfl, Nat.le_of_ble_eq_true rfl⟩) dX1_multiplyPoint_176 (fun v G' hp => ?_)
        obtain ⟨rfl, V2, rfl, v2, gv2⟩ := hp
        show hX z 0 0 (T, I2, V2, RK, A) [(5, .int x), (4, .int sw), (0, .ref (A 121)), (1, .ref (A a)), (2, .ref (A c)), (3, .ref (A u))] 179 []
        refine x_aload_n C dX1_multiplyPoint_179 2 rfl rfl ?_
        refine x_getrN C fl_X1_19 (xO.1 121 _ rfl).1 rfl hRp dX1_multiplyPoint_180 ?_
        refine x_aload_n C dX1_multiplyPoint_183 5 rfl rfl ?_
        refine x_callS C (ok_X1_pack p u nu (fMul ((ladF (upF b) (bitS (scl (I a))) 255).1.1) (fPw ((ladF (upF b) (bitS (scl (I a))) 255).1.2.1) 254)) (cvT xO hp).1 (cvT xO hp).2 hTu hu0 hnu hnu2 v2 (fun i hi => by have := (hQ.1.w.mul (fPw_b hQ.2.1 254).w).b27 hi; omega)) ms_X1_pack ml_X1_75 rfl rfl (Nat.le_of_ble_eq_true rfl) (hrm (rm := { frames := 0, cells := 0, slots := 0, locals := 0 }) hZ ⟨Nat.le_of_ble_eq_true rfl, Nat.le_of_ble_eq_true rfl⟩) (hcs hZ ⟨Nat.le_of_ble_eq_true rfl, Nat.le_of_ble_eq_true rfl⟩) dX1_multiplyPoint_184 (fun v G' hp => ?_)
        obtain ⟨rfl, V3, rfl, gv3⟩ := hp
        show hX z 0 0 (T, (va_up I2 u (fun t => if t < 32 then nI (packF (cvCar (fMul ((ladF (upF b) (bitS (scl (I a))) 255).1.1) (fPw ((ladF (upF b) (bitS (scl (I a))) 255).1.2.1) 254))) t) else I2 u t)), V3, RK, A) [(5, .int x), (4, .int sw), (0, .ref (A 121)), (1, .ref (A a)), (2, .ref (A c)), (3, .ref (A u))] 187 []
        exact x_vret C E (Nat.le_of_ble_eq_true rfl) (Nat.le_of_ble_eq_true rfl) dX1_multiplyPoint_187 (⟨rfl, _, _, _, rfl, by rw [up_eq, show I2 u = I u by rw [eI2, up_ne _ _ hu, eI1, up_ne _ _ hu, up_ne _ _ hu]]; rfl, by rw [eI2, eI1]; exact ((((fx.rf.up (by simp)).up (by simp)).up (by simp)).up (by simp)), fR, p, q, r, s, ⟨hRp, hRq, hRr, hRs⟩, ⟨hp, hq, hr, hs⟩, hpq, hpr, hps, hqr, hqs, hrs⟩)
      · have hm1 : 0 < m := by
          have : ¬ m = 0 := fun e => c97 (by rw [hx]; exact (m1_lt m (by omega)).mpr e)
          omega
        have hx2 : x = nI (m - 1) := by rw [hx]; exact m1_eq hm1
        refine x_aload_n C dX1_multiplyPoint_100 2 rfl rfl ?_
        refine x_getrN C fl_X1_9 (xO.1 121 _ rfl).1 rfl (xO.2.1 121 0 _ rfl) dX1_multiplyPoint_101 ?_
        refine x_iload C dX1_multiplyPoint_104 0 rfl ?_
        refine x_eqi (y := nI (m - 1)) hx2 ?_
        refine x_iconst (v := nI 3) C dX1_multiplyPoint_106 (by decide +kernel) ?_
        refine x_ishrN C (by omega) (by omega) dX1_multiplyPoint_107 ?_
        refine x_ialdN C (xO.1 122 _ rfl).1 (by omega) (by omega) dX1_multiplyPoint_108 ?_
        refine x_iload C dX1_multiplyPoint_109 0 rfl ?_
        refine x_eqi (y := nI (m - 1)) hx2 ?_
        refine x_bipush (v := nI 7) C dX1_multiplyPoint_111 (by decide +kernel) ?_
        refine x_iandN (q := 3) C (by omega) (by omega) rfl dX1_multiplyPoint_113 ?_
        refine x_ishr C dX1_multiplyPoint_114 ?_
        refine x_iconst (v := nI 1) C dX1_multiplyPoint_115 (by decide +kernel) ?_
        refine x_iand C dX1_multiplyPoint_116 ?_
        refine x_iconst (v := nI 1) C dX1_multiplyPoint_117 (by decide +kernel) ?_
        refine x_icmp_ne (tgt := 125) C dX1_multiplyPoint_118 (by decide) (fun c118 => ?_) (fun c118 => ?_)
        · have hbit : (bitS (scl (I a))) (m - 1) = false := decide_eq_false (by rw [← hscl _ (by omega)]; exact c118)
          refine x_iconst (v := nI 0) C dX1_multiplyPoint_125 (by decide +kernel) ?_
          refine x_istore (lv' := [(6, .int (nI 0)), (5, .int x), (4, .int sw), (0, .ref (A 121)), (1, .ref (A a)), (2, .ref (A c)), (3, .ref (A u))]) C dX1_multiplyPoint_126 (Nat.lt_of_lt_of_eq (by decide) hN.symm) rfl ?_
          refine x_iload C dX1_multiplyPoint_128 0 rfl ?_
          refine x_iload C dX1_multiplyPoint_130 2 rfl ?_
          refine x_icmp_eq (tgt := 139) C dX1_multiplyPoint_132 (by decide) (fun c132 => ?_) (fun c132 => ?_)
          · have hb0 : (bitS (scl (I a))) (m - 1) = (ladF (upF b) (bitS (scl (I a))) (255 - m)).2 := by
              rw [hbit]; rw [hsw] at c132; generalize (ladF (upF b) (bitS (scl (I a))) (255 - m)).2 = b0 at c132
              cases b0 <;> first | rfl | exact absurd c132 (by decide +kernel)
            have ladN : (ladF (upF b) (bitS (scl (I a))) ((255 - m) + 1)) = (stQ (upF b) (ladF (upF b) (bitS (scl (I a))) (255 - m)).1, (bitS (scl (I a))) (m - 1)) := by
              simp only [ladF]; rw [show 254 - (255 - m) = m - 1 by omega, if_pos hb0]
            refine x_iload C dX1_multiplyPoint_139 0 rfl ?_
            refine x_istore (lv' := [(4, .int (nI 0)), (6, .int (nI 0)), (5, .int x), (0, .ref (A 121)), (1, .ref (A a)), (2, .ref (A c)), (3, .ref (A u))]) C dX1_multiplyPoint_141 (Nat.lt_of_lt_of_eq (by decide) hN.symm) rfl ?_
            refine x_aload_n C dX1_multiplyPoint_143 3 rfl rfl ?_
            refine x_callV C (ok_X1_step xO hsa p q r s hRp hRq hRr hRs hp hq hr hs hpq hpr hps hqr hqs hrs (upF b) ((ladF (upF b) (bitS (scl (I a))) (255 - m)).1.1) ((ladF (upF b) (bitS (scl (I a))) (255 - m)).1.2.1) ((ladF (upF b) (bitS (scl (I a))) (255 - m)).1.2.2.1) ((ladF (upF b) (bitS (scl (I a))) (255 - m)).1.2.2.2) hX1 hpv hqv hrv hsv (upF_b b) hQ.1 hQ.2.1 hQ.2.2.1 hQ.2.2.2) mv_X1_step ml_X1_64 (xO.1 121 _ rfl).1 rfl rfl rfl (Nat.le_of_ble_eq_true rfl) (hrm (rm := { frames := 0, cells := 0, slots := 0, locals := 0 }) hZ ⟨Nat.le_of_ble_eq_true rfl, Nat.le_of_ble_eq_true rfl⟩) (hcs hZ ⟨Nat.le_of_ble_eq_true rfl, Nat.le_of_ble_eq_true rfl⟩) dX1_multiplyPoint_144 (fun v G' hp => ?_)
            obtain ⟨rfl, KS, rfl, sX1, sp, sq, sr, ss, sfr⟩ := hp
            show hX z 0 0 (T, I2, KS, RK, A) [(4, .int (nI 0)), (6, .int (nI 0)), (5, .int x), (0, .ref (A 121)), (1, .ref (A a)), (2, .ref (A c)), (3, .ref (A u))] 147 []
            refine x_iinc (v := x + (-1)) (lv' := [(5, .int (x + (-1))), (4, .int (nI 0)), (6, .int (nI 0)), (0, .ref (A 121)), (1, .ref (A a)), (2, .ref (A c)), (3, .ref (A u))]) C dX1_multiplyPoint_147 2 rfl (by rfl) (Nat.lt_of_lt_of_eq (by decide) hN.symm) rfl ?_
            refine x_goto (tgt := 95) C dX1_multiplyPoint_150 (by decide) ?_
            refine x_sub (lv' := _) [0, 1, 3, 4, 5, 6] rfl ?_
            exact ih95 (m - 1) (x + (-1)) (nI 0) p q r s KS RK (by omega) (by omega) (by rw [hx2, m1_dec]) (by rw [show 255 - (m - 1) = (255 - m) + 1 by omega, ladN]; show _ = bI ((bitS (scl (I a))) (m - 1)); rw [hbit]; rfl) fR ⟨⟨hRp, hRq, hRr, hRs⟩, ⟨hp, hq, hr, hs⟩, hpq, hpr, hps, hqr, hqs, hrs⟩ sX1 (fun j hj => by rw [show 255 - (m - 1) = (255 - m) + 1 by omega, ladN]; exact sp j hj) (fun j hj => by rw [show 255 - (m - 1) = (255 - m) + 1 by omega, ladN]; exact sq j hj) (fun j hj => by rw [show 255 - (m - 1) = (255 - m) + 1 by omega, ladN]; exact sr j hj) (fun j hj => by rw [show 255 - (m - 1) = (255 - m) + 1 by omega, ladN]; exact ss j hj)
          · have hb0 : ¬ (bitS (scl (I a))) (m - 1) = (ladF (upF b) (bitS (scl (I a))) (255 - m)).2 := by
              rw [hbit]; rw [hsw] at c132; generalize (ladF (upF b) (bitS (scl (I a))) (255 - m)).2 = b0 at c132
              cases b0 <;> first | exact (by decide) | exact absurd rfl c132
            have ladN : (ladF (upF b) (bitS (scl (I a))) ((255 - m) + 1)) = (stQ (upF b) (swQ (ladF (upF b) (bitS (scl (I a))) (255 - m)).1), (bitS (scl (I a))) (m - 1)) := by
              simp only [ladF]; rw [show 254 - (255 - m) = m - 1 by omega, if_neg hb0]
            refine x_aload_n C dX1_multiplyPoint_135 3 rfl rfl ?_
            refine x_callV C (ok_X1_swap xO hsa p q r s hRp hRq hRr hRs hp hq hr hs hpq hpr hps hqr hqs hrs) mv_X1_swap ml_X1_61 (xO.1 121 _ rfl).1 rfl rfl rfl (Nat.le_of_ble_eq_true rfl) (hrm (rm := { frames := 0, cells := 0, slots := 0, locals := 0 }) hZ ⟨Nat.le_of_ble_eq_true rfl, Nat.le_of_ble_eq_true rfl⟩) (hcs hZ ⟨Nat.le_of_ble_eq_true rfl, Nat.le_of_ble_eq_true rfl⟩) dX1_multiplyPoint_136 (fun v G' hp => ?_)
            obtain ⟨rfl, RW, rfl, w2, w3, w4, w5, wq, wk⟩ := hp
            show hX z 0 0 (T, I2, K, RW, A) [(6, .int (nI 0)), (5, .int x), (4, .int sw), (0, .ref (A 121)), (1, .ref (A a)), (2, .ref (A c)), (3, .ref (A u))] 139 []
            refine x_iload C dX1_multiplyPoint_139 0 rfl ?_
            refine x_istore (lv' := [(4, .int (nI 0)), (6, .int (nI 0)), (5, .int x), (0, .ref (A 121)), (1, .ref (A a)), (2, .ref (A c)), (3, .ref (A u))]) C dX1_multiplyPoint_141 (Nat.lt_of_lt_of_eq (by decide) hN.symm) rfl ?_
            refine x_aload_n C dX1_multiplyPoint_143 3 rfl rfl ?_
            refine x_callV C (ok_X1_step (xO.ref wq wk) hsa r s p q w2 w3 w4 w5 hr hs hp hq hrs (Ne.symm hpr) (Ne.symm hqr) (Ne.symm hps) (Ne.symm hqs) hpq (upF b) ((ladF (upF b) (bitS (scl (I a))) (255 - m)).1.2.2.1) ((ladF (upF b) (bitS (scl (I a))) (255 - m)).1.2.2.2) ((ladF (upF b) (bitS (scl (I a))) (255 - m)).1.1) ((ladF (upF b) (bitS (scl (I a))) (255 - m)).1.2.1) hX1 hrv hsv hpv hqv (upF_b b) hQ.2.2.1 hQ.2.2.2 hQ.1 hQ.2.1) mv_X1_step ml_X1_64 (xO.1 121 _ rfl).1 rfl rfl rfl (Nat.le_of_ble_eq_true rfl) (hrm (rm := { frames := 0, cells := 0, slots := 0, locals := 0 }) hZ ⟨Nat.le_of_ble_eq_true rfl, Nat.le_of_ble_eq_true rfl⟩) (hcs hZ ⟨Nat.le_of_ble_eq_true rfl, Nat.le_of_ble_eq_true rfl⟩) dX1_multiplyPoint_144 (fun v G' hp => ?_)
            obtain ⟨rfl, KS, rfl, sX1, sp, sq, sr, ss, sfr⟩ := hp
            show hX z 0 0 (T, I2, KS, RW, A) [(4, .int (nI 0)), (6, .int (nI 0)), (5, .int x), (0, .ref (A 121)), (1, .ref (A a)), (2, .ref (A c)), (3, .ref (A u))] 147 []
            refine x_iinc (v := x + (-1)) (lv' := [(5, .int (x + (-1))), (4, .int (nI 0)), (6, .int (nI 0)), (0, .ref (A 121)), (1, .ref (A a)), (2, .ref (A c)), (3, .ref (A u))]) C dX1_multiplyPoint_147 2 rfl (by rfl) (Nat.lt_of_lt_of_eq (by decide) hN.symm) rfl ?_
            refine x_goto (tgt := 95) C dX1_multiplyPoint_150 (by decide) ?_
            refine x_sub (lv' := _) [0, 1, 3, 4, 5, 6] rfl ?_
            exact ih95 (m - 1) (x + (-1)) (nI 0) r s p q KS RW (by omega) (by omega) (by rw [hx2, m1_dec]) (by rw [show 255 - (m - 1) = (255 - m) + 1 by omega, ladN]; show _ = bI ((bitS (scl (I a))) (m - 1)); rw [hbit]; rfl) (fR.tr ⟨wq, wk⟩) ⟨⟨w2, w3, w4, w5⟩, ⟨hr, hs, hp, hq⟩, hrs, Ne.symm hpr, Ne.symm hqr, Ne.symm hps, Ne.symm hqs, hpq⟩ sX1 (fun j hj => by rw [show 255 - (m - 1) = (255 - m) + 1 by omega, ladN]; exact sp j hj) (fun j hj => by rw [show 255 - (m - 1) = (255 - m) + 1 by omega, ladN]; exact sq j hj) (fun j hj => by rw [show 255 - (m - 1) = (255 - m) + 1 by omega, ladN]; exact sr j hj) (fun j hj => by rw [show 255 - (m - 1) = (255 - m) + 1 by omega, ladN]; exact ss j hj)
        · have hbit : (bitS (scl (I a))) (m - 1) = true := decide_eq_true (by rw [← hscl _ (by omega)]; exact c118)
          refine x_iconst (v := nI 1) C dX1_multiplyPoint_121 (by decide +kernel) ?_
          refine x_goto (tgt := 126) C dX1_multiplyPoint_122 (by decide) ?_
          refine x_istore (lv' := [(6, .int (nI 1)), (5, .int x), (4, .int sw), (0, .ref (A 121)), (1, .ref (A a)), (2, .ref (A c)), (3, .ref (A u))]) C dX1_multiplyPoint_126 (Nat.lt_of_lt_of_eq (by decide) hN.symm) rfl ?_
          refine x_iload C dX1_multiplyPoint_128 0 rfl ?_
          refine x_iload C dX1_multiplyPoint_130 2 rfl ?_
          refine x_icmp_eq (tgt := 139) C dX1_multiplyPoint_132 (by decide) (fun c132 => ?_) (fun c132 => ?_)
          · have hb0 : (bitS (scl (I a))) (m - 1) = (ladF (upF b) (bitS (scl (I a))) (255 - m)).2 := by
              rw [hbit]; rw [hsw] at c132; generalize (ladF (upF b) (bitS (scl (I a))) (255 - m)).2 = b0 at c132
              cases b0 <;> first | rfl | exact absurd c132 (by decide +kernel)
            have ladN : (ladF (upF b) (bitS (scl (I a))) ((255 - m) + 1)) = (stQ (upF b) (ladF (upF b) (bitS (scl (I a))) (255 - m)).1, (bitS (scl (I a))) (m - 1)) := by
              simp only [ladF]; rw [show 254 - (255 - m) = m - 1 by omega, if_pos hb0]
            refine x_iload C dX1_multiplyPoint_139 0 rfl ?_
            refine x_istore (lv' := [(4, .int (nI 1)), (6, .int (nI 1)), (5, .int x), (0, .ref (A 121)), (1, .ref (A a)), (2, .ref (A c)), (3, .ref (A u))]) C dX1_multiplyPoint_141 (Nat.lt_of_lt_of_eq (by decide) hN.symm) rfl ?_
            refine x_aload_n C dX1_multiplyPoint_143 3 rfl rfl ?_
            refine x_callV C (ok_X1_step xO hsa p q r s hRp hRq hRr hRs hp hq hr hs hpq hpr hps hqr hqs hrs (upF b) ((ladF (upF b) (bitS (scl (I a))) (255 - m)).1.1) ((ladF (upF b) (bitS (scl (I a))) (255 - m)).1.2.1) ((ladF (upF b) (bitS (scl (I a))) (255 - m)).1.2.2.1) ((ladF (upF b) (bitS (scl (I a))) (255 - m)).1.2.2.2) hX1 hpv hqv hrv hsv (upF_b b) hQ.1 hQ.2.1 hQ.2.2.1 hQ.2.2.2) mv_X1_step ml_X1_64 (xO.1 121 _ rfl).1 rfl rfl rfl (Nat.le_of_ble_eq_true rfl) (hrm (rm := { frames := 0, cells := 0, slots := 0, locals := 0 }) hZ ⟨Nat.le_of_ble_eq_true rfl, Nat.le_of_ble_eq_true rfl⟩) (hcs hZ ⟨Nat.le_of_ble_eq_true rfl, Nat.le_of_ble_eq_true rfl⟩) dX1_multiplyPoint_144 (fun v G' hp => ?_)
            obtain ⟨rfl, KS, rfl, sX1, sp, sq, sr, ss, sfr⟩ := hp
            show hX z 0 0 (T, I2, KS, RK, A) [(4, .int (nI 1)), (6, .int (nI 1)), (5, .int x), (0, .ref (A 121)), (1, .ref (A a)), (2, .ref (A c)), (3, .ref (A u))] 147 []
            refine x_iinc (v := x + (-1)) (lv' := [(5, .int (x + (-1))), (4, .int (nI 1)), (6, .int (nI 1)), (0, .ref (A 121)), (1, .ref (A a)), (2, .ref (A c)), (3, .ref (A u))]) C dX1_multiplyPoint_147 2 rfl (by rfl) (Nat.lt_of_lt_of_eq (by decide) hN.symm) rfl ?_
            refine x_goto (tgt := 95) C dX1_multiplyPoint_150 (by decide) ?_
            refine x_sub (lv' := _) [0, 1, 3, 4, 5, 6] rfl ?_
            exact ih95 (m - 1) (x + (-1)) (nI 1) p q r s KS RK (by omega) (by omega) (by rw [hx2, m1_dec]) (by rw [show 255 - (m - 1) = (255 - m) + 1 by omega, ladN]; show _ = bI ((bitS (scl (I a))) (m - 1)); rw [hbit]; rfl) fR ⟨⟨hRp, hRq, hRr, hRs⟩, ⟨hp, hq, hr, hs⟩, hpq, hpr, hps, hqr, hqs, hrs⟩ sX1 (fun j hj => by rw [show 255 - (m - 1) = (255 - m) + 1 by omega, ladN]; exact sp j hj) (fun j hj => by rw [show 255 - (m - 1) = (255 - m) + 1 by omega, ladN]; exact sq j hj) (fun j hj => by rw [show 255 - (m - 1) = (255 - m) + 1 by omega, ladN]; exact sr j hj) (fun j hj => by rw [show 255 - (m - 1) = (255 - m) + 1 by omega, ladN]; exact ss j hj)
          · have hb0 : ¬ (bitS (scl (I a))) (m - 1) = (ladF (upF b) (bitS (scl (I a))) (255 - m)).2 := by
              rw [hbit]; rw [hsw] at c132; generalize (ladF (upF b) (bitS (scl (I a))) (255 - m)).2 = b0 at c132
              cases b0 <;> first | exact (by decide) | exact absurd rfl c132
            have ladN : (ladF (upF b) (bitS (scl (I a))) ((255 - m) + 1)) = (stQ (upF b) (swQ (ladF (upF b) (bitS (scl (I a))) (255 - m)).1), (bitS (scl (I a))) (m - 1)) := by
              simp only [ladF]; rw [show 254 - (255 - m) = m - 1 by omega, if_neg hb0]
            refine x_aload_n C dX1_multiplyPoint_135 3 rfl rfl ?_
            refine x_callV C (ok_X1_swap xO hsa p q r s hRp hRq hRr hRs hp hq hr hs hpq hpr hps hqr hqs hrs) mv_X1_swap ml_X1_61 (xO.1 121 _ rfl).1 rfl rfl rfl (Nat.le_of_ble_eq_true rfl) (hrm (rm := { frames := 0, cells := 0, slots := 0, locals := 0 }) hZ ⟨Nat.le_of_ble_eq_true rfl, Nat.le_of_ble_eq_true rfl⟩) (hcs hZ ⟨Nat.le_of_ble_eq_true rfl, Nat.le_of_ble_eq_true rfl⟩) dX1_multiplyPoint_136 (fun v G' hp => ?_)
            obtain ⟨rfl, RW, rfl, w2, w3, w4, w5, wq, wk⟩ := hp
            show hX z 0 0 (T, I2, K, RW, A) [(6, .int (nI 1)), (5, .int x), (4, .int sw), (0, .ref (A 121)), (1, .ref (A a)), (2, .ref (A c)), (3, .ref (A u))] 139 []
            refine x_iload C dX1_multiplyPoint_139 0 rfl ?_
            refine x_istore (lv' := [(4, .int (nI 1)), (6, .int (nI 1)), (5, .int x), (0, .ref (A 121)), (1, .ref (A a)), (2, .ref (A c)), (3, .ref (A u))]) C dX1_multiplyPoint_141 (Nat.lt_of_lt_of_eq (by decide) hN.symm) rfl ?_
            refine x_aload_n C dX1_multiplyPoint_143 3 rfl rfl ?_
            refine x_callV C (ok_X1_step (xO.ref wq wk) hsa r s p q w2 w3 w4 w5 hr hs hp hq hrs (Ne.symm hpr) (Ne.symm hqr) (Ne.symm hps) (Ne.symm hqs) hpq (upF b) ((ladF (upF b) (bitS (scl (I a))) (255 - m)).1.2.2.1) ((ladF (upF b) (bitS (scl (I a))) (255 - m)).1.2.2.2) ((ladF (upF b) (bitS (scl (I a))) (255 - m)).1.1) ((ladF (upF b) (bitS (scl (I a))) (255 - m)).1.2.1) hX1 hrv hsv hpv hqv (upF_b b) hQ.2.2.1 hQ.2.2.2 hQ.1 hQ.2.1) mv_X1_step ml_X1_64 (xO.1 121 _ rfl).1 rfl rfl rfl (Nat.le_of_ble_eq_true rfl) (hrm (rm := { frames := 0, cells := 0, slots := 0, locals := 0 }) hZ ⟨Nat.le_of_ble_eq_true rfl, Nat.le_of_ble_eq_true rfl⟩) (hcs hZ ⟨Nat.le_of_ble_eq_true rfl, Nat.le_of_ble_eq_true rfl⟩) dX1_multiplyPoint_144 (fun v G' hp => ?_)
            obtain ⟨rfl, KS, rfl, sX1, sp, sq, sr, ss, sfr⟩ := hp
            show hX z 0 0 (T, I2, KS, RW, A) [(4, .int (nI 1)), (6, .int (nI 1)), (5, .int x), (0, .ref (A 121)), (1, .ref (A a)), (2, .ref (A c)), (3, .ref (A u))] 147 []
            refine x_iinc (v := x + (-1)) (lv' := [(5, .int (x + (-1))), (4, .int (nI 1)), (6, .int (nI 1)), (0, .ref (A 121)), (1, .ref (A a)), (2, .ref (A c)), (3, .ref (A u))]) C dX1_multiplyPoint_147 2 rfl (by rfl) (Nat.lt_of_lt_of_eq (by decide) hN.symm) rfl ?_
            refine x_goto (tgt := 95) C dX1_multiplyPoint_150 (by decide) ?_
            refine x_sub (lv' := _) [0, 1, 3, 4, 5, 6] rfl ?_
            exact ih95 (m - 1) (x + (-1)) (nI 1) r s p q KS RW (by omega) (by omega) (by rw [hx2, m1_dec]) (by rw [show 255 - (m - 1) = (255 - m) + 1 by omega, ladN]; show _ = bI ((bitS (scl (I a))) (m - 1)); rw [hbit]; rfl) (fR.tr ⟨wq, wk⟩) ⟨⟨w2, w3, w4, w5⟩, ⟨hr, hs, hp, hq⟩, hrs, Ne.symm hpr, Ne.symm hqr, Ne.symm hps, Ne.symm hqs, hpq⟩ sX1 (fun j hj => by rw [show 255 - (m - 1) = (255 - m) + 1 by omega, ladN]; exact sp j hj) (fun j hj => by rw [show 255 - (m - 1) = (255 - m) + 1 by omega, ladN]; exact sq j hj) (fun j hj => by rw [show 255 - (m - 1) = (255 - m) + 1 by omega, ladN]; exact sr j hj) (fun j hj => by rw [show 255 - (m - 1) = (255 - m) + 1 by omega, ladN]; exact ss j hj)
  refine x_sub (lv' := _) [0, 1, 2, 3, 4, 5] rfl ?_
  exact L95 _ 255 (nI 254) (nI 0) p q r s K5 R (Nat.lt_succ_self _) (by omega) (by decide +kernel) rfl fr121.rf ⟨⟨hRp, hRq, hRr, hRs⟩, ⟨hp, hq, hr, hs⟩, hpq, hpr, hps, hqr, hqs, hrs⟩ (fun j hj => by rw [g5 123 (by omega), eL3, up_ne _ _ (by omega), g3 123 (by omega), g2 123 (by omega)]; exact i1 j hj) (fun j hj => by rw [g5 p hps, eL3, up_ne _ _ hpr, g3 p hpq, i2 j hj]; rfl) (fun j hj => by rw [g5 q hqs, eL3, up_ne _ _ hqr, i3 j hj]; show lZ _ = lZ 0; congr 1; split <;> rfl) (fun j hj => by rw [g5 r hrs, eL3, up_eq, if_pos (by omega), Nat.zero_add, Nat.sub_zero, g3 123 (by omega), g2 123 (by omega)]; exact i1 j hj) (fun j hj => by rw [i5 j hj]; rfl)

