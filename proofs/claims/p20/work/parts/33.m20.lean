def fAdd (F G : Nat → Int) (j : Nat) : Int := F j + G j
def fSub (F G : Nat → Int) (j : Nat) : Int := F j - G j
def fMul (F G : Nat → Int) : Nat → Int := cvCar (cvMul F G)
def fSc (F : Nat → Int) : Nat → Int := cvCar (fun j => 121665 * F j)
theorem cvB.w {F : Nat → Int} (h : cvB F) : cvW F := fun i hi => by
  have := h i hi; unfold wB; by_cases e : i % 2 = 0
  · rw [if_pos e, if_pos e] at this; rw [if_pos e]; omega
  · rw [if_neg e, if_neg e] at this; rw [if_neg e]; omega
theorem cvB.add {F G : Nat → Int} (h : cvB F) (k : cvB G) : cvW (fAdd F G) := fun i hi => by
  have h1 := h i hi; have h2 := k i hi; unfold wB fAdd; by_cases e : i % 2 = 0
  · rw [if_pos e, if_pos e] at h1 h2; rw [if_pos e]; omega
  · rw [if_neg e, if_neg e] at h1 h2; rw [if_neg e]; omega
theorem cvB.sub {F G : Nat → Int} (h : cvB F) (k : cvB G) : cvW (fSub F G) := fun i hi => by
  have h1 := h i hi; have h2 := k i hi; unfold wB fSub; by_cases e : i % 2 = 0
  · rw [if_pos e, if_pos e] at h1 h2; rw [if_pos e]; omega
  · rw [if_neg e, if_neg e] at h1 h2; rw [if_neg e]; omega
theorem cvW.mul {F G : Nat → Int} (h : cvW F) (k : cvW G) : cvB (fMul F G) := cvCar_b (cvMul_b h k)
theorem cvW.sc62 {F : Nat → Int} (h : cvW F) : ∀ i, i < 10 → -2 ^ 62 ≤ 121665 * F i ∧ 121665 * F i ≤ 2 ^ 62 := fun i hi => by
  have := h i hi; unfold wB at this; by_cases e : i % 2 = 0
  · rw [if_pos e] at this; omega
  · rw [if_neg e] at this; omega
theorem cvW.sc {F : Nat → Int} (h : cvW F) : cvB (fSc F) := cvCar_b h.sc62
def stepF (x1 x2 z2 x3 z3 : Nat → Int) : (Nat → Int) × (Nat → Int) × (Nat → Int) × (Nat → Int) :=
  let a := fAdd x2 z2; let b := fSub x2 z2
  let d := fMul (fSub x3 z3) a; let c := fMul (fAdd x3 z3) b
  let a2 := fMul a a; let b2 := fMul b b
  let e := fSub a2 b2
  (fMul a2 b2, fMul e (fAdd a2 (fSc e)), fMul (fAdd d c) (fAdd d c), fMul x1 (fMul (fSub d c) (fSub d c)))
set_option maxHeartbeats 4000000 in
set_option maxRecDepth 100000 in
theorem ok_X1_scale {l : Launch} {a0 : Nat} {D : va_G} {sa : Nat → Nat} {T : Nat → Option hKd} {I : Nat → Nat → Int32} {L : Nat → Nat → Int64} {R : Nat → Nat → Option Nat} {A : Nat → Nat} (f o : Nat) (F : Nat → Int) (hTf : T f = some (.inl (.long, 10))) (hTo : T o = some (.inl (.long, 10))) (ho0 : a0 ≤ A o) (hF : ∀ j, j < 10 → L f j = lZ (F j)) (hWF : cvW F) : hM l a0 D sa yX1_scale cX1_scale 3 none { frames := 2, cells := 0, slots := 0, locals := 46 } [.ref (A f), .ref (A o)] (T, I, L, R, A) (fun r G' => r = none ∧ ∃ L', G' = (T, I, L', R, A) ∧ (∀ j, j < 10 → L' o j = lZ (fSc F j)) ∧ ∀ q, q ≠ o → L' q = L q) := by
  refine hM.of (by decide +kernel) (Nat.le_of_ble_eq_true rfl) ?_
  intro z hl h0 hD hS hN C E
  subst hl; subst h0; subst hD; subst hS
  have C : hC z RX1 cX1_scale := C
  have hZ := E.2.2.2.1
  show hX z 0 0 (T, I, L, R, A) [(0, .ref (A f)), (1, .ref (A o))] 0 []
  refine x_iconst (v := nI 0) C dX1_scale_0 (by decide +kernel) ?_
  refine x_istore_n (lv' := [(2, .int (nI 0)), (0, .ref (A f)), (1, .ref (A o))]) C dX1_scale_1 rfl (Nat.lt_of_lt_of_eq (by decide) hN.symm) rfl ?_
  have L2 : ∀ (fuel_ : Nat) (i : Nat) (K : Nat → Nat → Int64), 10 - i < fuel_ → (i ≤ 10) → (∀ q, q ≠ o → K q = L q) → (∀ j, j < 10 → K o j = if j < i then lZ (121665 * F j) else L o j) → hX z 0 0 (T, I, K, R, A) [(2, .int (nI i)), (0, .ref (A f)), (1, .ref (A o))] 2 [] := by
    intro fuel_
    induction fuel_ with
    | zero => intro i K hmz; exact absurd hmz (Nat.not_lt_zero _)
    | succ fuel_ ih2 =>
      intro i K hmz hi hK hO
      refine x_iload_n C dX1_scale_2 0 rfl rfl ?_
      refine x_bipush (v := nI 10) C dX1_scale_3 (by decide +kernel) ?_
      refine x_icmp_geN (tgt := 24) C (by omega) (by omega) dX1_scale_5 (by decide) (fun c5 => ?_) (fun c5 => ?_)
      · refine x_aload_n C dX1_scale_24 2 rfl rfl ?_
        refine x_callS C (ok_X1_carry o (fun j => 121665 * F j) hTo ho0 (fun j hj => by rw [hO j hj, if_pos (by omega)]) hWF.sc62) ms_X1_carry ml_X1_90 rfl rfl (Nat.le_of_ble_eq_true rfl) (hrm (rm := { frames := 0, cells := 0, slots := 0, locals := 0 }) hZ ⟨Nat.le_of_ble_eq_true rfl, Nat.le_of_ble_eq_true rfl⟩) (hcs hZ ⟨Nat.le_of_ble_eq_true rfl, Nat.le_of_ble_eq_true rfl⟩) dX1_scale_25 (fun v G' hp => ?_)
        obtain ⟨rfl, M, rfl, hM1, hM2⟩ := hp
        show hX z 0 0 (T, I, M, R, A) [(2, .int (nI i)), (0, .ref (A f)), (1, .ref (A o))] 28 []
        exact x_vret C E (Nat.le_of_ble_eq_true rfl) (Nat.le_of_ble_eq_true rfl) dX1_scale_28 (⟨rfl, M, rfl, hM1, fun q hq => (hM2 q hq).trans (hK q hq)⟩)
      · refine x_aload_n C dX1_scale_8 2 rfl rfl ?_
        refine x_iload_n C dX1_scale_9 0 rfl rfl ?_
        refine x_ldc2 C dX1_scale_10 kc_X1_88 ?_
        refine x_eql (y := lZ 121665) (lZ_lit 121665) ?_
        refine x_aload_n C dX1_scale_13 1 rfl rfl ?_
        refine x_iload_n C dX1_scale_14 0 rfl rfl ?_
        refine x_laldN C hTf (by omega) (by omega) dX1_scale_15 ?_
        refine x_eql (y := lZ (F i)) (rd_al hF (by omega) hK hO) ?_
        refine x_lmulZ C dX1_scale_16 ?_
        refine x_lastN C hTo ho0 (by omega) (by omega) dX1_scale_17 (fun L1 eL1 => ?_)
        refine x_iinc (v := nI (i + 1)) (lv' := [(2, .int (nI (i + 1))), (0, .ref (A f)), (1, .ref (A o))]) C dX1_scale_18 0 rfl (nI_inc 1) (Nat.lt_of_lt_of_eq (by decide) hN.symm) rfl ?_
        refine x_goto (tgt := 2) C dX1_scale_21 (by decide) ?_
        refine x_sub (lv' := _) [0, 1, 2] rfl ?_
        exact ih2 (i + 1) L1 (by omega) (by omega) (fun q hq => by rw [eL1, up_ne _ _ hq]; exact hK q hq) (by rw [eL1]; exact wr_al (H := fun j => lZ (121665 * F j)) hO rfl)
  refine x_sub (lv' := _) [0, 1, 2] rfl ?_
  exact L2 _ 0 L (Nat.lt_succ_self _) (by omega) (fun _ _ => rfl) (fun j _ => by rw [if_neg (by omega)])

theorem cvT {T : Nat → Option hKd} {R : Nat → Nat → Option Nat} {A : Nat → Nat} {a0 : Nat} (xO : isX T R A a0) {p : Nat} (hp : 124 ≤ p ∧ p ≤ 127) : T p = some (.inl (.long, 10)) ∧ a0 ≤ A p := by
  rcases (show p = 124 ∨ p = 125 ∨ p = 126 ∨ p = 127 by omega) with rfl | rfl | rfl | rfl <;> exact xO.1 _ _ rfl
set_option maxHeartbeats 4000000 in
set_option maxRecDepth 100000 in
theorem ok_X1_step {l : Launch} {a0 : Nat} {D : va_G} {sa : Nat → Nat} {T : Nat → Option hKd} {I : Nat → Nat → Int32} {L : Nat → Nat → Int64} {R : Nat → Nat → Option Nat} {A : Nat → Nat} (xO : isX T R A a0) (hsa : ∀ k, k < 5 → sa k = A (90 + k)) (p q r s : Nat) (hRp : R 121 2 = some p) (hRq : R 121 3 = some q) (hRr : R 121 4 = some r) (hRs : R 121 5 = some s) (hp : 124 ≤ p ∧ p ≤ 127) (hq : 124 ≤ q ∧ q ≤ 127) (hr : 124 ≤ r ∧ r ≤ 127) (hs : 124 ≤ s ∧ s ≤ 127) (hpq : p ≠ q) (hpr : p ≠ r) (hps : p ≠ s) (hqr : q ≠ r) (hqs : q ≠ s) (hrs : r ≠ s) (X1 X2 Z2 X3 Z3 : Nat → Int) (hX1 : ∀ j, j < 10 → L 123 j = lZ (X1 j)) (hX2 : ∀ j, j < 10 → L p j = lZ (X2 j)) (hZ2 : ∀ j, j < 10 → L q j = lZ (Z2 j)) (hX3 : ∀ j, j < 10 → L r j = lZ (X3 j)) (hZ3 : ∀ j, j < 10 → L s j = lZ (Z3 j)) (bX1 : cvB X1) (bX2 : cvB X2) (bZ2 : cvB Z2) (bX3 : cvB X3) (bZ3 : cvB Z3) : hM l a0 D sa yX1_step cX1_step 1 none { frames := 3, cells := 0, slots := 0, locals := 136 } [.ref (A 121)] (T, I, L, R, A) (fun v G' => v = none ∧ ∃ L', G' = (T, I, L', R, A) ∧ (∀ j, j < 10 → L' 123 j = lZ (X1 j)) ∧ (∀ j, j < 10 → L' p j = lZ ((stepF X1 X2 Z2 X3 Z3).1 j)) ∧ (∀ j, j < 10 → L' q j = lZ ((stepF X1 X2 Z2 X3 Z3).2.1 j)) ∧ (∀ j, j < 10 → L' r j = lZ ((stepF X1 X2 Z2 X3 Z3).2.2.1 j)) ∧ (∀ j, j < 10 → L' s j = lZ ((stepF X1 X2 Z2 X3 Z3).2.2.2 j)) ∧ ∀ q', q' ∉ [p, q, r, s, 128, 129, 130, 131] → L' q' = L q') := by
  refine hM.of (by decide +kernel) (Nat.le_of_ble_eq_true rfl) ?_
  intro z hl h0 hD hS hN C E
  subst hl; subst h0; subst hD; subst hS
  have C : hC z RX1 cX1_step := C
  have hZ := E.2.2.2.1
  show hX z 0 0 (T, I, L, R, A) [(0, .ref (A 121))] 0 []
  refine x_aload_n C dX1_step_0 0 rfl rfl ?_
  refine x_getrN C fl_X1_19 (xO.1 121 _ rfl).1 rfl hRp dX1_step_1 ?_
  refine x_aload_n C dX1_step_4 0 rfl rfl ?_
  refine x_getrN C fl_X1_22 (xO.1 121 _ rfl).1 rfl hRq dX1_step_5 ?_
  refine x_aload_n C dX1_step_8 0 rfl rfl ?_
  refine x_getrN C fl_X1_31 (xO.1 121 _ rfl).1 rfl (xO.2.1 121 6 _ rfl) dX1_step_9 ?_
  refine x_callS C (ok_X1_add p q 128 X2 Z2 (cvT xO hp).1 (cvT xO hq).1 (xO.1 128 _ rfl).1 (xO.1 128 _ rfl).2 hX2 hZ2) ms_X1_add ml_X1_79 rfl rfl (Nat.le_of_ble_eq_true rfl) (hrm (rm := { frames := 0, cells := 0, slots := 0, locals := 0 }) hZ ⟨Nat.le_of_ble_eq_true rfl, Nat.le_of_ble_eq_true rfl⟩) (hcs hZ ⟨Nat.le_of_ble_eq_true rfl, Nat.le_of_ble_eq_true rfl⟩) dX1_step_12 (fun v G' hp => ?_)
  obtain ⟨rfl, M1, rfl, i1, g1⟩ := hp
  have h1_p : ∀ j, j < 10 → M1 p j = lZ (X2 j) := fun j hj => by rw [g1 p (by omega)]; exact hX2 j hj
  have h1_q : ∀ j, j < 10 → M1 q j = lZ (Z2 j) := fun j hj => by rw [g1 q (by omega)]; exact hZ2 j hj
  have h1_r : ∀ j, j < 10 → M1 r j = lZ (X3 j) := fun j hj => by rw [g1 r (by omega)]; exact hX3 j hj
  have h1_s : ∀ j, j < 10 → M1 s j = lZ (Z3 j) := fun j hj => by rw [g1 s (by omega)]; exact hZ3 j hj
  have h1_123 : ∀ j, j < 10 → M1 123 j = lZ (X1 j) := fun j hj => by rw [g1 123 (by omega)]; exact hX1 j hj
  have fr1 : ∀ q', q' ∉ [p, q, r, s, 128, 129, 130, 131] → M1 q' = L q' := fun q' hq' => by
    rw [g1 q' (by simp at hq'; omega)]
  show hX z 0 0 (T, I, M1, R, A) [(0, .ref (A 121))] 15 []
  refine x_aload_n C dX1_step_15 0 rfl rfl ?_
  refine x_getrN C fl_X1_19 (xO.1 121 _ rfl).1 rfl hRp dX1_step_16 ?_
  refine x_aload_n C dX1_step_19 0 rfl rfl ?_
  refine x_getrN C fl_X1_22 (xO.1 121 _ rfl).1 rfl hRq dX1_step_20 ?_
  refine x_aload_n C dX1_step_23 0 rfl rfl ?_
  refine x_getrN C fl_X1_34 (xO.1 121 _ rfl).1 rfl (xO.2.1 121 7 _ rfl) dX1_step_24 ?_
  refine x_callS C (ok_X1_subtract p q 129 X2 Z2 (cvT xO hp).1 (cvT xO hq).1 (xO.1 129 _ rfl).1 (xO.1 129 _ rfl).2 h1_p h1_q) ms_X1_subtract ml_X1_82 rfl rfl (Nat.le_of_ble_eq_true rfl) (hrm (rm := { frames := 0, cells := 0, slots := 0, locals := 0 }) hZ ⟨Nat.le_of_ble_eq_true rfl, Nat.le_of_ble_eq_true rfl⟩) (hcs hZ ⟨Nat.le_of_ble_eq_true rfl, Nat.le_of_ble_eq_true rfl⟩) dX1_step_27 (fun v G' hp => ?_)
  obtain ⟨rfl, M2, rfl, i2, g2⟩ := hp
  have h2_p : ∀ j, j < 10 → M2 p j = lZ (X2 j) := fun j hj => by rw [g2 p (by omega)]; exact h1_p j hj
  have h2_q : ∀ j, j < 10 → M2 q j = lZ (Z2 j) := fun j hj => by rw [g2 q (by omega)]; exact h1_q j hj
  have h2_r : ∀ j, j < 10 → M2 r j = lZ (X3 j) := fun j hj => by rw [g2 r (by omega)]; exact h1_r j hj
  have h2_s : ∀ j, j < 10 → M2 s j = lZ (Z3 j) := fun j hj => by rw [g2 s (by omega)]; exact h1_s j hj
  have h2_123 : ∀ j, j < 10 → M2 123 j = lZ (X1 j) := fun j hj => by rw [g2 123 (by omega)]; exact h1_123 j hj
  have h2_128 : ∀ j, j < 10 → M2 128 j = lZ ((fAdd X2 Z2) j) := fun j hj => by rw [g2 128 (by omega)]; exact i1 j hj
  have fr2 : ∀ q', q' ∉ [p, q, r, s, 128, 129, 130, 131] → M2 q' = L q' := fun q' hq' => by
    rw [g2 q' (by simp at hq'; omega)]; exact fr1 q' hq'
  show hX z 0 0 (T, I, M2, R, A) [(0, .ref (A 121))] 30 []
  refine x_aload_n C dX1_step_30 0 rfl rfl ?_
  refine x_getrN C fl_X1_25 (xO.1 121 _ rfl).1 rfl hRr dX1_step_31 ?_
  refine x_aload_n C dX1_step_34 0 rfl rfl ?_
  refine x_getrN C fl_X1_28 (xO.1 121 _ rfl).1 rfl hRs dX1_step_35 ?_
  refine x_aload_n C dX1_step_38 0 rfl rfl ?_
  refine x_getrN C fl_X1_37 (xO.1 121 _ rfl).1 rfl (xO.2.1 121 8 _ rfl) dX1_step_39 ?_
  refine x_callS C (ok_X1_add r s 130 X3 Z3 (cvT xO hr).1 (cvT xO hs).1 (xO.1 130 _ rfl).1 (xO.1 130 _ rfl).2 h2_r h2_s) ms_X1_add ml_X1_79 rfl rfl (Nat.le_of_ble_eq_true rfl) (hrm (rm := { frames := 0, cells := 0, slots := 0, locals := 0 }) hZ ⟨Nat.le_of_ble_eq_true rfl, Nat.le_of_ble_eq_true rfl⟩) (hcs hZ ⟨Nat.le_of_ble_eq_true rfl, Nat.le_of_ble_eq_true rfl⟩) dX1_step_42 (fun v G' hp => ?_)
  obtain ⟨rfl, M3, rfl, i3, g3⟩ := hp
  have h3_p : ∀ j, j < 10 → M3 p j = lZ (X2 j) := fun j hj => by rw [g3 p (by omega)]; exact h2_p j hj
  have h3_q : ∀ j, j < 10 → M3 q j = lZ (Z2 j) := fun j hj => by rw [g3 q (by omega)]; exact h2_q j hj
  have h3_r : ∀ j, j < 10 → M3 r j = lZ (X3 j) := fun j hj => by rw [g3 r (by omega)]; exact h2_r j hj
  have h3_s : ∀ j, j < 10 → M3 s j = lZ (Z3 j) := fun j hj => by rw [g3 s (by omega)]; exact h2_s j hj
  have h3_123 : ∀ j, j < 10 → M3 123 j = lZ (X1 j) := fun j hj => by rw [g3 123 (by omega)]; exact h2_123 j hj
  have h3_128 : ∀ j, j < 10 → M3 128 j = lZ ((fAdd X2 Z2) j) := fun j hj => by rw [g3 128 (by omega)]; exact h2_128 j hj
  have h3_129 : ∀ j, j < 10 → M3 129 j = lZ ((fSub X2 Z2) j) := fun j hj => by rw [g3 129 (by omega)]; exact i2 j hj
  have fr3 : ∀ q', q' ∉ [p, q, r, s, 128, 129, 130, 131] → M3 q' = L q' := fun q' hq' => by
    rw [g3 q' (by simp at hq'; omega)]; exact fr2 q' hq'
  show hX z 0 0 (T, I, M3, R, A) [(0, .ref (A 121))] 45 []
  refine x_aload_n C dX1_step_45 0 rfl rfl ?_
  refine x_getrN C fl_X1_25 (xO.1 121 _ rfl).1 rfl hRr dX1_step_46 ?_
  refine x_aload_n C dX1_step_49 0 rfl rfl ?_
  refine x_getrN C fl_X1_28 (xO.1 121 _ rfl).1 rfl hRs dX1_step_50 ?_
  refine x_aload_n C dX1_step_53 0 rfl rfl ?_
  refine x_getrN C fl_X1_40 (xO.1 121 _ rfl).1 rfl (xO.2.1 121 9 _ rfl) dX1_step_54 ?_
  refine x_callS C (ok_X1_subtract r s 131 X3 Z3 (cvT xO hr).1 (cvT xO hs).1 (xO.1 131 _ rfl).1 (xO.1 131 _ rfl).2 h3_r h3_s) ms_X1_subtract ml_X1_82 rfl rfl (Nat.le_of_ble_eq_true rfl) (hrm (rm := { frames := 0, cells := 0, slots := 0, locals := 0 }) hZ ⟨Nat.le_of_ble_eq_true rfl, Nat.le_of_ble_eq_true rfl⟩) (hcs hZ ⟨Nat.le_of_ble_eq_true rfl, Nat.le_of_ble_eq_true rfl⟩) dX1_step_57 (fun v G' hp => ?_)
  obtain ⟨rfl, M4, rfl, i4, g4⟩ := hp
  have h4_p : ∀ j, j < 10 → M4 p j = lZ (X2 j) := fun j hj => by rw [g4 p (by omega)]; exact h3_p j hj
  have h4_q : ∀ j, j < 10 → M4 q j = lZ (Z2 j) := fun j hj => by rw [g4 q (by omega)]; exact h3_q j hj
  have h4_r : ∀ j, j < 10 → M4 r j = lZ (X3 j) := fun j hj => by rw [g4 r (by omega)]; exact h3_r j hj
  have h4_s : ∀ j, j < 10 → M4 s j = lZ (Z3 j) := fun j hj => by rw [g4 s (by omega)]; exact h3_s j hj
  have h4_123 : ∀ j, j < 10 → M4 123 j = lZ (X1 j) := fun j hj => by rw [g4 123 (by omega)]; exact h3_123 j hj
  have h4_128 : ∀ j, j < 10 → M4 128 j = lZ ((fAdd X2 Z2) j) := fun j hj => by rw [g4 128 (by omega)]; exact h3_128 j hj
  have h4_129 : ∀ j, j < 10 → M4 129 j = lZ ((fSub X2 Z2) j) := fun j hj => by rw [g4 129 (by omega)]; exact h3_129 j hj
  have h4_130 : ∀ j, j < 10 → M4 130 j = lZ ((fAdd X3 Z3) j) := fun j hj => by rw [g4 130 (by omega)]; exact i3 j hj
  have fr4 : ∀ q', q' ∉ [p, q, r, s, 128, 129, 130, 131] → M4 q' = L q' := fun q' hq' => by
    rw [g4 q' (by simp at hq'; omega)]; exact fr3 q' hq'
  show hX z 0 0 (T, I, M4, R, A) [(0, .ref (A 121))] 60 []
  refine x_aload_n C dX1_step_60 0 rfl rfl ?_
  refine x_getrN C fl_X1_40 (xO.1 121 _ rfl).1 rfl (xO.2.1 121 9 _ rfl) dX1_step_61 ?_
  refine x_aload_n C dX1_step_64 0 rfl rfl ?_
  refine x_getrN C fl_X1_31 (xO.1 121 _ rfl).1 rfl (xO.2.1 121 6 _ rfl) dX1_step_65 ?_
  refine x_aload_n C dX1_step_68 0 rfl rfl ?_
  refine x_getrN C fl_X1_40 (xO.1 121 _ rfl).1 rfl (xO.2.1 121 9 _ rfl) dX1_step_69 ?_
  refine x_callS C (ok_X1_multiply 131 128 131 (fSub X3 Z3) (fAdd X2 Z2) (xO.1 131 _ rfl).1 (xO.1 128 _ rfl).1 (xO.1 131 _ rfl).1 (xO.1 131 _ rfl).2 i4 h4_128 (bX3.sub bZ3) (bX2.add bZ2)) ms_X1_multiply ml_X1_71 rfl rfl (Nat.le_of_ble_eq_true rfl) (hrm (rm := { frames := 0, cells := 0, slots := 0, locals := 0 }) hZ ⟨Nat.le_of_ble_eq_true rfl, Nat.le_of_ble_eq_true rfl⟩) (hcs hZ ⟨Nat.le_of_ble_eq_true rfl, Nat.le_of_ble_eq_true rfl⟩) dX1_step_72 (fun v G' hp => ?_)
  obtain ⟨rfl, M5, rfl, i5, g5⟩ := hp
  have h5_p : ∀ j, j < 10 → M5 p j = lZ (X2 j) := fun j hj => by rw [g5 p (by omega)]; exact h4_p j hj
  have h5_q : ∀ j, j < 10 → M5 q j = lZ (Z2 j) := fun j hj => by rw [g5 q (by omega)]; exact h4_q j hj
  have h5_r : ∀ j, j < 10 → M5 r j = lZ (X3 j) := fun j hj => by rw [g5 r (by omega)]; exact h4_r j hj
  have h5_s : ∀ j, j < 10 → M5 s j = lZ (Z3 j) := fun j hj => by rw [g5 s (by omega)]; exact h4_s j hj
  have h5_123 : ∀ j, j < 10 → M5 123 j = lZ (X1 j) := fun j hj => by rw [g5 123 (by omega)]; exact h4_123 j hj
  have h5_128 : ∀ j, j < 10 → M5 128 j = lZ ((fAdd X2 Z2) j) := fun j hj => by rw [g5 128 (by omega)]; exact h4_128 j hj
  have h5_129 : ∀ j, j < 10 → M5 129 j = lZ ((fSub X2 Z2) j) := fun j hj => by rw [g5 129 (by omega)]; exact h4_129 j hj
  have h5_130 : ∀ j, j < 10 → M5 130 j = lZ ((fAdd X3 Z3) j) := fun j hj => by rw [g5 130 (by omega)]; exact h4_130 j hj
  have fr5 : ∀ q', q' ∉ [p, q, r, s, 128, 129, 130, 131] → M5 q' = L q' := fun q' hq' => by
    rw [g5 q' (by simp at hq'; omega)]; exact fr4 q' hq'
  show hX z 0 0 (T, I, M5, R, A) [(0, .ref (A 121))] 75 []
  refine x_aload_n C dX1_step_75 0 rfl rfl ?_
  refine x_getrN C fl_X1_37 (xO.1 121 _ rfl).1 rfl (xO.2.1 121 8 _ rfl) dX1_step_76 ?_
  refine x_aload_n C dX1_step_79 0 rfl rfl ?_
  refine x_getrN C fl_X1_34 (xO.1 121 _ rfl).1 rfl (xO.2.1 121 7 _ rfl) dX1_step_80 ?_
  refine x_aload_n C dX1_step_83 0 rfl rfl ?_
  refine x_getrN C fl_X1_37 (xO.1 121 _ rfl).1 rfl (xO.2.1 121 8 _ rfl) dX1_step_84 ?_
  refine x_callS C (ok_X1_multiply 130 129 130 (fAdd X3 Z3) (fSub X2 Z2) (xO.1 130 _ rfl).1 (xO.1 129 _ rfl).1 (xO.1 130 _ rfl).1 (xO.1 130 _ rfl).2 h5_130 h5_129 (bX3.add bZ3) (bX2.sub bZ2)) ms_X1_multiply ml_X1_71 rfl rfl (Nat.le_of_ble_eq_true rfl) (hrm (rm := { frames := 0, cells := 0, slots := 0, locals := 0 }) hZ ⟨Nat.le_of_ble_eq_true rfl, Nat.le_of_ble_eq_true rfl⟩) (hcs hZ ⟨Nat.le_of_ble_eq_true rfl, Nat.le_of_ble_eq_true rfl⟩) dX1_step_87 (fun v G' hp => ?_)
  obtain ⟨rfl, M6, rfl, i6, g6⟩ := hp
  have h6_p : ∀ j, j < 10 → M6 p j = lZ (X2 j) := fun j hj => by rw [g6 p (by omega)]; exact h5_p j hj
  have h6_q : ∀ j, j < 10 → M6 q j = lZ (Z2 j) := fun j hj => by rw [g6 q (by omega)]; exact h5_q j hj
  have h6_r : ∀ j, j < 10 → M6 r j = lZ (X3 j) := fun j hj => by rw [g6 r (by omega)]; exact h5_r j hj
  have h6_s : ∀ j, j < 10 → M6 s j = lZ (Z3 j) := fun j hj => by rw [g6 s (by omega)]; exact h5_s j hj
  have h6_123 : ∀ j, j < 10 → M6 123 j = lZ (X1 j) := fun j hj => by rw [g6 123 (by omega)]; exact h5_123 j hj
  have h6_128 : ∀ j, j < 10 → M6 128 j = lZ ((fAdd X2 Z2) j) := fun j hj => by rw [g6 128 (by omega)]; exact h5_128 j hj
  have h6_129 : ∀ j, j < 10 → M6 129 j = lZ ((fSub X2 Z2) j) := fun j hj => by rw [g6 129 (by omega)]; exact h5_129 j hj
  have h6_131 : ∀ j, j < 10 → M6 131 j = lZ ((fMul (fSub X3 Z3) (fAdd X2 Z2)) j) := fun j hj => by rw [g6 131 (by omega)]; exact i5 j hj
  have fr6 : ∀ q', q' ∉ [p, q, r, s, 128, 129, 130, 131] → M6 q' = L q' := fun q' hq' => by
    rw [g6 q' (by simp at hq'; omega)]; exact fr5 q' hq'
  show hX z 0 0 (T, I, M6, R, A) [(0, .ref (A 121))] 90 []
  refine x_aload_n C dX1_step_90 0 rfl rfl ?_
  refine x_getrN C fl_X1_31 (xO.1 121 _ rfl).1 rfl (xO.2.1 121 6 _ rfl) dX1_step_91 ?_
  refine x_aload_n C dX1_step_94 0 rfl rfl ?_
  refine x_getrN C fl_X1_31 (xO.1 121 _ rfl).1 rfl (xO.2.1 121 6 _ rfl) dX1_step_95 ?_
  refine x_aload_n C dX1_step_98 0 rfl rfl ?_
  refine x_getrN C fl_X1_31 (xO.1 121 _ rfl).1 rfl (xO.2.1 121 6 _ rfl) dX1_step_99 ?_
  refine x_callS C (ok_X1_multiply 128 128 128 (fAdd X2 Z2) (fAdd X2 Z2) (xO.1 128 _ rfl).1 (xO.1 128 _ rfl).1 (xO.1 128 _ rfl).1 (xO.1 128 _ rfl).2 h6_128 h6_128 (bX2.add bZ2) (bX2.add bZ2)) ms_X1_multiply ml_X1_71 rfl rfl (Nat.le_of_ble_eq_true rfl) (hrm (rm := { frames := 0, cells := 0, slots := 0, locals := 0 }) hZ ⟨Nat.le_of_ble_eq_true rfl, Nat.le_of_ble_eq_true rfl⟩) (hcs hZ ⟨Nat.le_of_ble_eq_true rfl, Nat.le_of_ble_eq_true rfl⟩) dX1_step_102 (fun v G' hp => ?_)
  obtain ⟨rfl, M7, rfl, i7, g7⟩ := hp
  have h7_p : ∀ j, j < 10 → M7 p j = lZ (X2 j) := fun j hj => by rw [g7 p (by omega)]; exact h6_p j hj
  have h7_q : ∀ j, j < 10 → M7 q j = lZ (Z2 j) := fun j hj => by rw [g7 q (by omega)]; exact h6_q j hj
  have h7_r : ∀ j, j < 10 → M7 r j = lZ (X3 j) := fun j hj => by rw [g7 r (by omega)]; exact h6_r j hj
  have h7_s : ∀ j, j < 10 → M7 s j = lZ (Z3 j) := fun j hj => by rw [g7 s (by omega)]; exact h6_s j hj
  have h7_123 : ∀ j, j < 10 → M7 123 j = lZ (X1 j) := fun j hj => by rw [g7 123 (by omega)]; exact h6_123 j hj
  have h7_129 : ∀ j, j < 10 → M7 129 j = lZ ((fSub X2 Z2) j) := fun j hj => by rw [g7 129 (by omega)]; exact h6_129 j hj
  have h7_130 : ∀ j, j < 10 → M7 130 j = lZ ((fMul (fAdd X3 Z3) (fSub X2 Z2)) j) := fun j hj => by rw [g7 130 (by omega)]; exact i6 j hj
  have h7_131 : ∀ j, j < 10 → M7 131 j = lZ ((fMul (fSub X3 Z3) (fAdd X2 Z2)) j) := fun j hj => by rw [g7 131 (by omega)]; exact h6_131 j hj
  have fr7 : ∀ q', q' ∉ [p, q, r, s, 128, 129, 130, 131] → M7 q' = L q' := fun q' hq' => by
    rw [g7 q' (by simp at hq'; omega)]; exact fr6 q' hq'
  show hX z 0 0 (T, I, M7, R, A) [(0, .ref (A 121))] 105 []
  refine x_aload_n C dX1_step_105 0 rfl rfl ?_
  refine x_getrN C fl_X1_34 (xO.1 121 _ rfl).1 rfl (xO.2.1 121 7 _ rfl) dX1_step_106 ?_
  refine x_aload_n C dX1_step_109 0 rfl rfl ?_
  refine x_getrN C fl_X1_34 (xO.1 121 _ rfl).1 rfl (xO.2.1 121 7 _ rfl) dX1_step_110 ?_
  refine x_aload_n C dX1_step_113 0 rfl rfl ?_
  refine x_getrN C fl_X1_34 (xO.1 121 _ rfl).1 rfl (xO.2.1 121 7 _ rfl) dX1_step_114 ?_
  refine x_callS C (ok_X1_multiply 129 129 129 (fSub X2 Z2) (fSub X2 Z2) (xO.1 129 _ rfl).1 (xO.1 129 _ rfl).1 (xO.1 129 _ rfl).1 (xO.1 129 _ rfl).2 h7_129 h7_129 (bX2.sub bZ2) (bX2.sub bZ2)) ms_X1_multiply ml_X1_71 rfl rfl (Nat.le_of_ble_eq_true rfl) (hrm (rm := { frames := 0, cells := 0, slots := 0, locals := 0 }) hZ ⟨Nat.le_of_ble_eq_true rfl, Nat.le_of_ble_eq_true rfl⟩) (hcs hZ ⟨Nat.le_of_ble_eq_true rfl, Nat.le_of_ble_eq_true rfl⟩) dX1_step_117 (fun v G' hp => ?_)
  obtain ⟨rfl, M8, rfl, i8, g8⟩ := hp
  have h8_p : ∀ j, j < 10 → M8 p j = lZ (X2 j) := fun j hj => by rw [g8 p (by omega)]; exact h7_p j hj
  have h8_q : ∀ j, j < 10 → M8 q j = lZ (Z2 j) := fun j hj => by rw [g8 q (by omega)]; exact h7_q j hj
  have h8_r : ∀ j, j < 10 → M8 r j = lZ (X3 j) := fun j hj => by rw [g8 r (by omega)]; exact h7_r j hj
  have h8_s : ∀ j, j < 10 → M8 s j = lZ (Z3 j) := fun j hj => by rw [g8 s (by omega)]; exact h7_s j hj
  have h8_123 : ∀ j, j < 10 → M8 123 j = lZ (X1 j) := fun j hj => by rw [g8 123 (by omega)]; exact h7_123 j hj
  have h8_128 : ∀ j, j < 10 → M8 128 j = lZ ((fMul (fAdd X2 Z2) (fAdd X2 Z2)) j) := fun j hj => by rw [g8 128 (by omega)]; exact i7 j hj
  have h8_130 : ∀ j, j < 10 → M8 130 j = lZ ((fMul (fAdd X3 Z3) (fSub X2 Z2)) j) := fun j hj => by rw [g8 130 (by omega)]; exact h7_130 j hj
  have h8_131 : ∀ j, j < 10 → M8 131 j = lZ ((fMul (fSub X3 Z3) (fAdd X2 Z2)) j) := fun j hj => by rw [g8 131 (by omega)]; exact h7_131 j hj
  have fr8 : ∀ q', q' ∉ [p, q, r, s, 128, 129, 130, 131] → M8 q' = L q' := fun q' hq' => by
    rw [g8 q' (by simp at hq'; omega)]; exact fr7 q' hq'
  show hX z 0 0 (T, I, M8, R, A) [(0, .ref (A 121))] 120 []
  refine x_aload_n C dX1_step_120 0 rfl rfl ?_
  refine x_getrN C fl_X1_40 (xO.1 121 _ rfl).1 rfl (xO.2.1 121 9 _ rfl) dX1_step_121 ?_
  refine x_aload_n C dX1_step_124 0 rfl rfl ?_
  refine x_getrN C fl_X1_37 (xO.1 121 _ rfl).1 rfl (xO.2.1 121 8 _ rfl) dX1_step_125 ?_
  refine x_aload_n C dX1_step_128 0 rfl rfl ?_
  refine x_getrN C fl_X1_25 (xO.1 121 _ rfl).1 rfl hRr dX1_step_129 ?_
  refine x_callS C (ok_X1_add 131 130 r (fMul (fSub X3 Z3) (fAdd X2 Z2)) (fMul (fAdd X3 Z3) (fSub X2 Z2)) (xO.1 131 _ rfl).1 (xO.1 130 _ rfl).1 (cvT xO hr).1 (cvT xO hr).2 h8_131 h8_130) ms_X1_add ml_X1_79 rfl rfl (Nat.le_of_ble_eq_true rfl) (hrm (rm := { frames := 0, cells := 0, slots := 0, locals := 0 }) hZ ⟨Nat.le_of_ble_eq_true rfl, Nat.le_of_ble_eq_true rfl⟩) (hcs hZ ⟨Nat.le_of_ble_eq_true rfl, Nat.le_of_ble_eq_true rfl⟩) dX1_step_132 (fun v G' hp => ?_)
  obtain ⟨rfl, M9, rfl, i9, g9⟩ := hp
  have h9_p : ∀ j, j < 10 → M9 p j = lZ (X2 j) := fun j hj => by rw [g9 p (by omega)]; exact h8_p j hj
  have h9_q : ∀ j, j < 10 → M9 q j = lZ (Z2 j) := fun j hj => by rw [g9 q (by omega)]; exact h8_q j hj
  have h9_s : ∀ j, j < 10 → M9 s j = lZ (Z3 j) := fun j hj => by rw [g9 s (by omega)]; exact h8_s j hj
  have h9_123 : ∀ j, j < 10 → M9 123 j = lZ (X1 j) := fun j hj => by rw [g9 123 (by omega)]; exact h8_123 j hj
  have h9_128 : ∀ j, j < 10 → M9 128 j = lZ ((fMul (fAdd X2 Z2) (fAdd X2 Z2)) j) := fun j hj => by rw [g9 128 (by omega)]; exact h8_128 j hj
  have h9_129 : ∀ j, j < 10 → M9 129 j = lZ ((fMul (fSub X2 Z2) (fSub X2 Z2)) j) := fun j hj => by rw [g9 129 (by omega)]; exact i8 j hj
  have h9_130 : ∀ j, j < 10 → M9 130 j = lZ ((fMul (fAdd X3 Z3) (fSub X2 Z2)) j) := fun j hj => by rw [g9 130 (by omega)]; exact h8_130 j hj
  have h9_131 : ∀ j, j < 10 → M9 131 j = lZ ((fMul (fSub X3 Z3) (fAdd X2 Z2)) j) := fun j hj => by rw [g9 131 (by omega)]; exact h8_131 j hj
  have fr9 : ∀ q', q' ∉ [p, q, r, s, 128, 129, 130, 131] → M9 q' = L q' := fun q' hq' => by
    rw [g9 q' (by simp at hq'; omega)]; exact fr8 q' hq'
  show hX z 0 0 (T, I, M9, R, A) [(0, .ref (A 121))] 135 []
  refine x_aload_n C dX1_step_135 0 rfl rfl ?_
  refine x_getrN C fl_X1_25 (xO.1 121 _ rfl).1 rfl hRr dX1_step_136 ?_
  refine x_aload_n C dX1_step_139 0 rfl rfl ?_
  refine x_getrN C fl_X1_25 (xO.1 121 _ rfl).1 rfl hRr dX1_step_140 ?_
  refine x_aload_n C dX1_step_143 0 rfl rfl ?_
  refine x_getrN C fl_X1_25 (xO.1 121 _ rfl).1 rfl hRr dX1_step_144 ?_
  refine x_callS C (ok_X1_multiply r r r (fAdd (fMul (fSub X3 Z3) (fAdd X2 Z2)) (fMul (fAdd X3 Z3) (fSub X2 Z2))) (fAdd (fMul (fSub X3 Z3) (fAdd X2 Z2)) (fMul (fAdd X3 Z3) (fSub X2 Z2))) (cvT xO hr).1 (cvT xO hr).1 (cvT xO hr).1 (cvT xO hr).2 i9 i9 ((cvW.mul (bX3.sub bZ3) (bX2.add bZ2)).add (cvW.mul (bX3.add bZ3) (bX2.sub bZ2))) ((cvW.mul (bX3.sub bZ3) (bX2.add bZ2)).add (cvW.mul (bX3.add bZ3) (bX2.sub bZ2)))) ms_X1_multiply ml_X1_71 rfl rfl (Nat.le_of_ble_eq_true rfl) (hrm (rm := { frames := 0, cells := 0, slots := 0, locals := 0 }) hZ ⟨Nat.le_of_ble_eq_true rfl, Nat.le_of_ble_eq_true rfl⟩) (hcs hZ ⟨Nat.le_of_ble_eq_true rfl, Nat.le_of_ble_eq_true rfl⟩) dX1_step_147 (fun v G' hp => ?_)
  obtain ⟨rfl, M10, rfl, i10, g10⟩ := hp
  have h10_p : ∀ j, j < 10 → M10 p j = lZ (X2 j) := fun j hj => by rw [g10 p (by omega)]; exact h9_p j hj
  have h10_q : ∀ j, j < 10 → M10 q j = lZ (Z2 j) := fun j hj => by rw [g10 q (by omega)]; exact h9_q j hj
  have h10_s : ∀ j, j < 10 → M10 s j = lZ (Z3 j) := fun j hj => by rw [g10 s (by omega)]; exact h9_s j hj
  have h10_123 : ∀ j, j < 10 → M10 123 j = lZ (X1 j) := fun j hj => by rw [g10 123 (by omega)]; exact h9_123 j hj
  have h10_128 : ∀ j, j < 10 → M10 128 j = lZ ((fMul (fAdd X2 Z2) (fAdd X2 Z2)) j) := fun j hj => by rw [g10 128 (by omega)]; exact h9_128 j hj
  have h10_129 : ∀ j, j < 10 → M10 129 j = lZ ((fMul (fSub X2 Z2) (fSub X2 Z2)) j) := fun j hj => by rw [g10 129 (by omega)]; exact h9_129 j hj
  have h10_130 : ∀ j, j < 10 → M10 130 j = lZ ((fMul (fAdd X3 Z3) (fSub X2 Z2)) j) := fun j hj => by rw [g10 130 (by omega)]; exact h9_130 j hj
  have h10_131 : ∀ j, j < 10 → M10 131 j = lZ ((fMul (fSub X3 Z3) (fAdd X2 Z2)) j) := fun j hj => by rw [g10 131 (by omega)]; exact h9_131 j hj
  have fr10 : ∀ q', q' ∉ [p, q, r, s, 128, 129, 130, 131] → M10 q' = L q' := fun q' hq' => by
    rw [g10 q' (by simp at hq'; omega)]; exact fr9 q' hq'
  show hX z 0 0 (T, I, M10, R, A) [(0, .ref (A 121))] 150 []
  refine x_aload_n C dX1_step_150 0 rfl rfl ?_
  refine x_getrN C fl_X1_40 (xO.1 121 _ rfl).1 rfl (xO.2.1 121 9 _ rfl) dX1_step_151 ?_
  refine x_aload_n C dX1_step_154 0 rfl rfl ?_
  refine x_getrN C fl_X1_37 (xO.1 121 _ rfl).1 rfl (xO.2.1 121 8 _ rfl) dX1_step_155 ?_
  refine x_aload_n C dX1_step_158 0 rfl rfl ?_
  refine x_getrN C fl_X1_28 (xO.1 121 _ rfl).1 rfl hRs dX1_step_159 ?_
  refine x_callS C (ok_X1_subtract 131 130 s (fMul (fSub X3 Z3) (fAdd X2 Z2)) (fMul (fAdd X3 Z3) (fSub X2 Z2)) (xO.1 131 _ rfl).1 (xO.1 130 _ rfl).1 (cvT xO hs).1 (cvT xO hs).2 h10_131 h10_130) ms_X1_subtract ml_X1_82 rfl rfl (Nat.le_of_ble_eq_true rfl) (hrm (rm := { frames := 0, cells := 0, slots := 0, locals := 0 }) hZ ⟨Nat.le_of_ble_eq_true rfl, Nat.le_of_ble_eq_true rfl⟩) (hcs hZ ⟨Nat.le_of_ble_eq_true rfl, Nat.le_of_ble_eq_true rfl⟩) dX1_step_162 (fun v G' hp => ?_)
  obtain ⟨rfl, M11, rfl, i11, g11⟩ := hp
  have h11_p : ∀ j, j < 10 → M11 p j = lZ (X2 j) := fun j hj => by rw [g11 p (by omega)]; exact h10_p j hj
  have h11_q : ∀ j, j < 10 → M11 q j = lZ (Z2 j) := fun j hj => by rw [g11 q (by omega)]; exact h10_q j hj
  have h11_r : ∀ j, j < 10 → M11 r j = lZ ((fMul (fAdd (fMul (fSub X3 Z3) (fAdd X2 Z2)) (fMul (fAdd X3 Z3) (fSub X2 Z2))) (fAdd (fMul (fSub X3 Z3) (fAdd X2 Z2)) (fMul (fAdd X3 Z3) (fSub X2 Z2)))) j) := fun j hj => by rw [g11 r (by omega)]; exact i10 j hj
  have h11_123 : ∀ j, j < 10 → M11 123 j = lZ (X1 j) := fun j hj => by rw [g11 123 (by omega)]; exact h10_123 j hj
  have h11_128 : ∀ j, j < 10 → M11 128 j = lZ ((fMul (fAdd X2 Z2) (fAdd X2 Z2)) j) := fun j hj => by rw [g11 128 (by omega)]; exact h10_128 j hj
  have h11_129 : ∀ j, j < 10 → M11 129 j = lZ ((fMul (fSub X2 Z2) (fSub X2 Z2)) j) := fun j hj => by rw [g11 129 (by omega)]; exact h10_129 j hj
  have h11_130 : ∀ j, j < 10 → M11 130 j = lZ ((fMul (fAdd X3 Z3) (fSub X2 Z2)) j) := fun j hj => by rw [g11 130 (by omega)]; exact h10_130 j hj
  have h11_131 : ∀ j, j < 10 → M11 131 j = lZ ((fMul (fSub X3 Z3) (fAdd X2 Z2)) j) := fun j hj => by rw [g11 131 (by omega)]; exact h10_131 j hj
  have fr11 : ∀ q', q' ∉ [p, q, r, s, 128, 129, 130, 131] → M11 q' = L q' := fun q' hq' => by
    rw [g11 q' (by simp at hq'; omega)]; exact fr10 q' hq'
  show hX z 0 0 (T, I, M11, R, A) [(0, .ref (A 121))] 165 []
  refine x_aload_n C dX1_step_165 0 rfl rfl ?_
  refine x_getrN C fl_X1_28 (xO.1 121 _ rfl).1 rfl hRs dX1_step_166 ?_
  refine x_aload_n C dX1_step_169 0 rfl rfl ?_
  refine x_getrN C fl_X1_28 (xO.1 121 _ rfl).1 rfl hRs dX1_step_170 ?_
  refine x_aload_n C dX1_step_173 0 rfl rfl ?_
  refine x_getrN C fl_X1_28 (xO.1 121 _ rfl).1 rfl hRs dX1_step_174 ?_
  refine x_callS C (ok_X1_multiply s s s (fSub (fMul (fSub X3 Z3) (fAdd X2 Z2)) (fMul (fAdd X3 Z3) (fSub X2 Z2))) (fSub (fMul (fSub X3 Z3) (fAdd X2 Z2)) (fMul (fAdd X3 Z3) (fSub X2 Z2))) (cvT xO hs).1 (cvT xO hs).1 (cvT xO hs).1 (cvT xO hs).2 i11 i11 ((cvW.mul (bX3.sub bZ3) (bX2.add bZ2)).sub (cvW.mul (bX3.add bZ3) (bX2.sub bZ2))) ((cvW.mul (bX3.sub bZ3) (bX2.add bZ2)).sub (cvW.mul (bX3.add bZ3) (bX2.sub bZ2)))) ms_X1_multiply ml_X1_71 rfl rfl (Nat.le_of_ble_eq_true rfl) (hrm (rm := { frames := 0, cells := 0, slots := 0, locals := 0 }) hZ ⟨Nat.le_of_ble_eq_true rfl, Nat.le_of_ble_eq_true rfl⟩) (hcs hZ ⟨Nat.le_of_ble_eq_true rfl, Nat.le_of_ble_eq_true rfl⟩) dX1_step_177 (fun v G' hp => ?_)
  obtain ⟨rfl, M12, rfl, i12, g12⟩ := hp
  have h12_p : ∀ j, j < 10 → M12 p j = lZ (X2 j) := fun j hj => by rw [g12 p (by omega)]; exact h11_p j hj
  have h12_q : ∀ j, j < 10 → M12 q j = lZ (Z2 j) := fun j hj => by rw [g12 q (by omega)]; exact h11_q j hj
  have h12_r : ∀ j, j < 10 → M12 r j = lZ ((fMul (fAdd (fMul (fSub X3 Z3) (fAdd X2 Z2)) (fMul (fAdd X3 Z3) (fSub X2 Z2))) (fAdd (fMul (fSub X3 Z3) (fAdd X2 Z2)) (fMul (fAdd X3 Z3) (fSub X2 Z2)))) j) := fun j hj => by rw [g12 r (by omega)]; exact h11_r j hj
  have h12_123 : ∀ j, j < 10 → M12 123 j = lZ (X1 j) := fun j hj => by rw [g12 123 (by omega)]; exact h11_123 j hj
  have h12_128 : ∀ j, j < 10 → M12 128 j = lZ ((fMul (fAdd X2 Z2) (fAdd X2 Z2)) j) := fun j hj => by rw [g12 128 (by omega)]; exact h11_128 j hj
  have h12_129 : ∀ j, j < 10 → M12 129 j = lZ ((fMul (fSub X2 Z2) (fSub X2 Z2)) j) := fun j hj => by rw [g12 129 (by omega)]; exact h11_129 j hj
  have h12_130 : ∀ j, j < 10 → M12 130 j = lZ ((fMul (fAdd X3 Z3) (fSub X2 Z2)) j) := fun j hj => by rw [g12 130 (by omega)]; exact h11_130 j hj
  have h12_131 : ∀ j, j < 10 → M12 131 j = lZ ((fMul (fSub X3 Z3) (fAdd X2 Z2)) j) := fun j hj => by rw [g12 131 (by omega)]; exact h11_131 j hj
  have fr12 : ∀ q', q' ∉ [p, q, r, s, 128, 129, 130, 131] → M12 q' = L q' := fun q' hq' => by
    rw [g12 q' (by simp at hq'; omega)]; exact fr11 q' hq'
  show hX z 0 0 (T, I, M12, R, A) [(0, .ref (A 121))] 180 []
  refine x_aload_n C dX1_step_180 0 rfl rfl ?_
  refine x_getrN C fl_X1_15 (xO.1 121 _ rfl).1 rfl (xO.2.1 121 1 _ rfl) dX1_step_181 ?_
  refine x_aload_n C dX1_step_184 0 rfl rfl ?_
  refine x_getrN C fl_X1_28 (xO.1 121 _ rfl).1 rfl hRs dX1_step_185 ?_
  refine x_aload_n C dX1_step_188 0 rfl rfl ?_
  refine x_getrN C fl_X1_28 (xO.1 121 _ rfl).1 rfl hRs dX1_step_189 ?_
  refine x_callS C (ok_X1_multiply 123 s s X1 (fMul (fSub (fMul (fSub X3 Z3) (fAdd X2 Z2)) (fMul (fAdd X3 Z3) (fSub X2 Z2))) (fSub (fMul (fSub X3 Z3) (fAdd X2 Z2)) (fMul (fAdd X3 Z3) (fSub X2 Z2)))) (xO.1 123 _ rfl).1 (cvT xO hs).1 (cvT xO hs).1 (cvT xO hs).2 h12_123 i12 bX1.w (cvW.mul ((cvW.mul (bX3.sub bZ3) (bX2.add bZ2)).sub (cvW.mul (bX3.add bZ3) (bX2.sub bZ2))) ((cvW.mul (bX3.sub bZ3) (bX2.add bZ2)).sub (cvW.mul (bX3.add bZ3) (bX2.sub bZ2)))).w) ms_X1_multiply ml_X1_71 rfl rfl (Nat.le_of_ble_eq_true rfl) (hrm (rm := { frames := 0, cells := 0, slots := 0, locals := 0 }) hZ ⟨Nat.le_of_ble_eq_true rfl, Nat.le_of_ble_eq_true rfl⟩) (hcs hZ ⟨Nat.le_of_ble_eq_true rfl, Nat.le_of_ble_eq_true rfl⟩) dX1_step_192 (fun v G' hp => ?_)
  obtain ⟨rfl, M13, rfl, i13, g13⟩ := hp
  have h13_p : ∀ j, j < 10 → M13 p j = lZ (X2 j) := fun j hj => by rw [g13 p (by omega)]; exact h12_p j hj
  have h13_q : ∀ j, j < 10 → M13 q j = lZ (Z2 j) := fun j hj => by rw [g13 q (by omega)]; exact h12_q j hj
  have h13_r : ∀ j, j < 10 → M13 r j = lZ ((fMul (fAdd (fMul (fSub X3 Z3) (fAdd X2 Z2)) (fMul (fAdd X3 Z3) (fSub X2 Z2))) (fAdd (fMul (fSub X3 Z3) (fAdd X2 Z2)) (fMul (fAdd X3 Z3) (fSub X2 Z2)))) j) := fun j hj => by rw [g13 r (by omega)]; exact h12_r j hj
  have h13_123 : ∀ j, j < 10 → M13 123 j = lZ (X1 j) := fun j hj => by rw [g13 123 (by omega)]; exact h12_123 j hj
  have h13_128 : ∀ j, j < 10 → M13 128 j = lZ ((fMul (fAdd X2 Z2) (fAdd X2 Z2)) j) := fun j hj => by rw [g13 128 (by omega)]; exact h12_128 j hj
  have h13_129 : ∀ j, j < 10 → M13 129 j = lZ ((fMul (fSub X2 Z2) (fSub X2 Z2)) j) := fun j hj => by rw [g13 129 (by omega)]; exact h12_129 j hj
  have h13_130 : ∀ j, j < 10 → M13 130 j = lZ ((fMul (fAdd X3 Z3) (fSub X2 Z2)) j) := fun j hj => by rw [g13 130 (by omega)]; exact h12_130 j hj
  have h13_131 : ∀ j, j < 10 → M13 131 j = lZ ((fMul (fSub X3 Z3) (fAdd X2 Z2)) j) := fun j hj => by rw [g13 131 (by omega)]; exact h12_131 j hj
  have fr13 : ∀ q', q' ∉ [p, q, r, s, 128, 129, 130, 131] → M13 q' = L q' := fun q' hq' => by
    rw [g13 q' (by simp at hq'; omega)]; exact fr12 q' hq'
  show hX z 0 0 (T, I, M13, R, A) [(0, .ref (A 121))] 195 []
  refine x_aload_n C dX1_step_195 0 rfl rfl ?_
  refine x_getrN C fl_X1_31 (xO.1 121 _ rfl).1 rfl (xO.2.1 121 6 _ rfl) dX1_step_196 ?_
  refine x_aload_n C dX1_step_199 0 rfl rfl ?_
  refine x_getrN C fl_X1_34 (xO.1 121 _ rfl).1 rfl (xO.2.1 121 7 _ rfl) dX1_step_200 ?_
  refine x_aload_n C dX1_step_203 0 rfl rfl ?_
  refine x_getrN C fl_X1_19 (xO.1 121 _ rfl).1 rfl hRp dX1_step_204 ?_
  refine x_callS C (ok_X1_multiply 128 129 p (fMul (fAdd X2 Z2) (fAdd X2 Z2)) (fMul (fSub X2 Z2) (fSub X2 Z2)) (xO.1 128 _ rfl).1 (xO.1 129 _ rfl).1 (cvT xO hp).1 (cvT xO hp).2 h13_128 h13_129 (cvW.mul (bX2.add bZ2) (bX2.add bZ2)).w (cvW.mul (bX2.sub bZ2) (bX2.sub bZ2)).w) ms_X1_multiply ml_X1_71 rfl rfl (Nat.le_of_ble_eq_true rfl) (hrm (rm := { frames := 0, cells := 0, slots := 0, locals := 0 }) hZ ⟨Nat.le_of_ble_eq_true rfl, Nat.le_of_ble_eq_true rfl⟩) (hcs hZ ⟨Nat.le_of_ble_eq_true rfl, Nat.le_of_ble_eq_true rfl⟩) dX1_step_207 (fun v G' hp => ?_)
  obtain ⟨rfl, M14, rfl, i14, g14⟩ := hp
  have h14_q : ∀ j, j < 10 → M14 q j = lZ (Z2 j) := fun j hj => by rw [g14 q (by omega)]; exact h13_q j hj
  have h14_r : ∀ j, j < 10 → M14 r j = lZ ((fMul (fAdd (fMul (fSub X3 Z3) (fAdd X2 Z2)) (fMul (fAdd X3 Z3) (fSub X2 Z2))) (fAdd (fMul (fSub X3 Z3) (fAdd X2 Z2)) (fMul (fAdd X3 Z3) (fSub X2 Z2)))) j) := fun j hj => by rw [g14 r (by omega)]; exact h13_r j hj
  have h14_s : ∀ j, j < 10 → M14 s j = lZ ((fMul X1 (fMul (fSub (fMul (fSub X3 Z3) (fAdd X2 Z2)) (fMul (fAdd X3 Z3) (fSub X2 Z2))) (fSub (fMul (fSub X3 Z3) (fAdd X2 Z2)) (fMul (fAdd X3 Z3) (fSub X2 Z2))))) j) := fun j hj => by rw [g14 s (by omega)]; exact i13 j hj
  have h14_123 : ∀ j, j < 10 → M14 123 j = lZ (X1 j) := fun j hj => by rw [g14 123 (by omega)]; exact h13_123 j hj
  have h14_128 : ∀ j, j < 10 → M14 128 j = lZ ((fMul (fAdd X2 Z2) (fAdd X2 Z2)) j) := fun j hj => by rw [g14 128 (by omega)]; exact h13_128 j hj
  have h14_129 : ∀ j, j < 10 → M14 129 j = lZ ((fMul (fSub X2 Z2) (fSub X2 Z2)) j) := fun j hj => by rw [g14 129 (by omega)]; exact h13_129 j hj
  have h14_130 : ∀ j, j < 10 → M14 130 j = lZ ((fMul (fAdd X3 Z3) (fSub X2 Z2)) j) := fun j hj => by rw [g14 130 (by omega)]; exact h13_130 j hj
  have h14_131 : ∀ j, j < 10 → M14 131 j = lZ ((fMul (fSub X3 Z3) (fAdd X2 Z2)) j) := fun j hj => by rw [g14 131 (by omega)]; exact h13_131 j hj
  have fr14 : ∀ q', q' ∉ [p, q, r, s, 128, 129, 130, 131] → M14 q' = L q' := fun q' hq' => by
    rw [g14 q' (by simp at hq'; omega)]; exact fr13 q' hq'
  show hX z 0 0 (T, I, M14, R, A) [(0, .ref (A 121))] 210 []
  refine x_aload_n C dX1_step_210 0 rfl rfl ?_
  refine x_getrN C fl_X1_31 (xO.1 121 _ rfl).1 rfl (xO.2.1 121 6 _ rfl) dX1_step_211 ?_
  refine x_aload_n C dX1_step_214 0 rfl rfl ?_
  refine x_getrN C fl_X1_34 (xO.1 121 _ rfl).1 rfl (xO.2.1 121 7 _ rfl) dX1_step_215 ?_
  refine x_aload_n C dX1_step_218 0 rfl rfl ?_
  refine x_getrN C fl_X1_34 (xO.1 121 _ rfl).1 rfl (xO.2.1 121 7 _ rfl) dX1_step_219 ?_
  refine x_callS C (ok_X1_subtract 128 129 129 (fMul (fAdd X2 Z2) (fAdd X2 Z2)) (fMul (fSub X2 Z2) (fSub X2 Z2)) (xO.1 128 _ rfl).1 (xO.1 129 _ rfl).1 (xO.1 129 _ rfl).1 (xO.1 129 _ rfl).2 h14_128 h14_129) ms_X1_subtract ml_X1_82 rfl rfl (Nat.le_of_ble_eq_true rfl) (hrm (rm := { frames := 0, cells := 0, slots := 0, locals := 0 }) hZ ⟨Nat.le_of_ble_eq_true rfl, Nat.le_of_ble_eq_true rfl⟩) (hcs hZ ⟨Nat.le_of_ble_eq_true rfl, Nat.le_of_ble_eq_true rfl⟩) dX1_step_222 (fun v G' hp => ?_)
  obtain ⟨rfl, M15, rfl, i15, g15⟩ := hp
  have h15_p : ∀ j, j < 10 → M15 p j = lZ ((fMul (fMul (fAdd X2 Z2) (fAdd X2 Z2)) (fMul (fSub X2 Z2) (fSub X2 Z2))) j) := fun j hj => by rw [g15 p (by omega)]; exact i14 j hj
  have h15_q : ∀ j, j < 10 → M15 q j = lZ (Z2 j) := fun j hj => by rw [g15 q (by omega)]; exact h14_q j hj
  have h15_r : ∀ j, j < 10 → M15 r j = lZ ((fMul (fAdd (fMul (fSub X3 Z3) (fAdd X2 Z2)) (fMul (fAdd X3 Z3) (fSub X2 Z2))) (fAdd (fMul (fSub X3 Z3) (fAdd X2 Z2)) (fMul (fAdd X3 Z3) (fSub X2 Z2)))) j) := fun j hj => by rw [g15 r (by omega)]; exact h14_r j hj
  have h15_s : ∀ j, j < 10 → M15 s j = lZ ((fMul X1 (fMul (fSub (fMul (fSub X3 Z3) (fAdd X2 Z2)) (fMul (fAdd X3 Z3) (fSub X2 Z2))) (fSub (fMul (fSub X3 Z3) (fAdd X2 Z2)) (fMul (fAdd X3 Z3) (fSub X2 Z2))))) j) := fun j hj => by rw [g15 s (by omega)]; exact h14_s j hj
  have h15_123 : ∀ j, j < 10 → M15 123 j = lZ (X1 j) := fun j hj => by rw [g15 123 (by omega)]; exact h14_123 j hj
  have h15_128 : ∀ j, j < 10 → M15 128 j = lZ ((fMul (fAdd X2 Z2) (fAdd X2 Z2)) j) := fun j hj => by rw [g15 128 (by omega)]; exact h14_128 j hj
  have h15_130 : ∀ j, j < 10 → M15 130 j = lZ ((fMul (fAdd X3 Z3) (fSub X2 Z2)) j) := fun j hj => by rw [g15 130 (by omega)]; exact h14_130 j hj
  have h15_131 : ∀ j, j < 10 → M15 131 j = lZ ((fMul (fSub X3 Z3) (fAdd X2 Z2)) j) := fun j hj => by rw [g15 131 (by omega)]; exact h14_131 j hj
  have fr15 : ∀ q', q' ∉ [p, q, r, s, 128, 129, 130, 131] → M15 q' = L q' := fun q' hq' => by
    rw [g15 q' (by simp at hq'; omega)]; exact fr14 q' hq'
  show hX z 0 0 (T, I, M15, R, A) [(0, .ref (A 121))] 225 []
  refine x_aload_n C dX1_step_225 0 rfl rfl ?_
  refine x_getrN C fl_X1_34 (xO.1 121 _ rfl).1 rfl (xO.2.1 121 7 _ rfl) dX1_step_226 ?_
  refine x_aload_n C dX1_step_229 0 rfl rfl ?_
  refine x_getrN C fl_X1_22 (xO.1 121 _ rfl).1 rfl hRq dX1_step_230 ?_
  refine x_callS C (ok_X1_scale 129 q (fSub (fMul (fAdd X2 Z2) (fAdd X2 Z2)) (fMul (fSub X2 Z2) (fSub X2 Z2))) (xO.1 129 _ rfl).1 (cvT xO hq).1 (cvT xO hq).2 i15 ((cvW.mul (bX2.add bZ2) (bX2.add bZ2)).sub (cvW.mul (bX2.sub bZ2) (bX2.sub bZ2)))) ms_X1_scale ml_X1_85 rfl rfl (Nat.le_of_ble_eq_true rfl) (hrm (rm := { frames := 0, cells := 0, slots := 0, locals := 0 }) hZ ⟨Nat.le_of_ble_eq_true rfl, Nat.le_of_ble_eq_true rfl⟩) (hcs hZ ⟨Nat.le_of_ble_eq_true rfl, Nat.le_of_ble_eq_true rfl⟩) dX1_step_233 (fun v G' hp => ?_)
  obtain ⟨rfl, M16, rfl, i16, g16⟩ := hp
  have h16_p : ∀ j, j < 10 → M16 p j = lZ ((fMul (fMul (fAdd X2 Z2) (fAdd X2 Z2)) (fMul (fSub X2 Z2) (fSub X2 Z2))) j) := fun j hj => by rw [g16 p (by omega)]; exact h15_p j hj
  have h16_r : ∀ j, j < 10 → M16 r j = lZ ((fMul (fAdd (fMul (fSub X3 Z3) (fAdd X2 Z2)) (fMul (fAdd X3 Z3) (fSub X2 Z2))) (fAdd (fMul (fSub X3 Z3) (fAdd X2 Z2)) (fMul (fAdd X3 Z3) (fSub X2 Z2)))) j) := fun j hj => by rw [g16 r (by omega)]; exact h15_r j hj
  have h16_s : ∀ j, j < 10 → M16 s j = lZ ((fMul X1 (fMul (fSub (fMul (fSub X3 Z3) (fAdd X2 Z2)) (fMul (fAdd X3 Z3) (fSub X2 Z2))) (fSub (fMul (fSub X3 Z3) (fAdd X2 Z2)) (fMul (fAdd X3 Z3) (fSub X2 Z2))))) j) := fun j hj => by rw [g16 s (by omega)]; exact h15_s j hj
  have h16_123 : ∀ j, j < 10 → M16 123 j = lZ (X1 j) := fun j hj => by rw [g16 123 (by omega)]; exact h15_123 j hj
  have h16_128 : ∀ j, j < 10 → M16 128 j = lZ ((fMul (fAdd X2 Z2) (fAdd X2 Z2)) j) := fun j hj => by rw [g16 128 (by omega)]; exact h15_128 j hj
  have h16_129 : ∀ j, j < 10 → M16 129 j = lZ ((fSub (fMul (fAdd X2 Z2) (fAdd X2 Z2)) (fMul (fSub X2 Z2) (fSub X2 Z2))) j) := fun j hj => by rw [g16 129 (by omega)]; exact i15 j hj
  have h16_130 : ∀ j, j < 10 → M16 130 j = lZ ((fMul (fAdd X3 Z3) (fSub X2 Z2)) j) := fun j hj => by rw [g16 130 (by omega)]; exact h15_130 j hj
  have h16_131 : ∀ j, j < 10 → M16 131 j = lZ ((fMul (fSub X3 Z3) (fAdd X2 Z2)) j) := fun j hj => by rw [g16 131 (by omega)]; exact h15_131 j hj
  have fr16 : ∀ q', q' ∉ [p, q, r, s, 128, 129, 130, 131] → M16 q' = L q' := fun q' hq' => by
    rw [g16 q' (by simp at hq'; omega)]; exact fr15 q' hq'
  show hX z 0 0 (T, I, M16, R, A) [(0, .ref (A 121))] 236 []
  refine x_aload_n C dX1_step_236 0 rfl rfl ?_
  refine x_getrN C fl_X1_31 (xO.1 121 _ rfl).1 rfl (xO.2.1 121 6 _ rfl) dX1_step_237 ?_
  refine x_aload_n C dX1_step_240 0 rfl rfl ?_
  refine x_getrN C fl_X1_22 (xO.1 121 _ rfl).1 rfl hRq dX1_step_241 ?_
  refine x_aload_n C dX1_step_244 0 rfl rfl ?_
  refine x_getrN C fl_X1_22 (xO.1 121 _ rfl).1 rfl hRq dX1_step_245 ?_
  refine x_callS C (ok_X1_add 128 q q (fMul (fAdd X2 Z2) (fAdd X2 Z2)) (fSc (fSub (fMul (fAdd X2 Z2) (fAdd X2 Z2)) (fMul (fSub X2 Z2) (fSub X2 Z2)))) (xO.1 128 _ rfl).1 (cvT xO hq).1 (cvT xO hq).1 (cvT xO hq).2 h16_128 i16) ms_X1_add ml_X1_79 rfl rfl (Nat.le_of_ble_eq_true rfl) (hrm (rm := { frames := 0, cells := 0, slots := 0, locals := 0 }) hZ ⟨Nat.le_of_ble_eq_true rfl, Nat.le_of_ble_eq_true rfl⟩) (hcs hZ ⟨Nat.le_of_ble_eq_true rfl, Nat.le_of_ble_eq_true rfl⟩) dX1_step_248 (fun v G' hp => ?_)
  obtain ⟨rfl, M17, rfl, i17, g17⟩ := hp
  have h17_p : ∀ j, j < 10 → M17 p j = lZ ((fMul (fMul (fAdd X2 Z2) (fAdd X2 Z2)) (fMul (fSub X2 Z2) (fSub X2 Z2))) j) := fun j hj => by rw [g17 p (by omega)]; exact h16_p j hj
  have h17_r : ∀ j, j < 10 → M17 r j = lZ ((fMul (fAdd (fMul (fSub X3 Z3) (fAdd X2 Z2)) (fMul (fAdd X3 Z3) (fSub X2 Z2))) (fAdd (fMul (fSub X3 Z3) (fAdd X2 Z2)) (fMul (fAdd X3 Z3) (fSub X2 Z2)))) j) := fun j hj => by rw [g17 r (by omega)]; exact h16_r j hj
  have h17_s : ∀ j, j < 10 → M17 s j = lZ ((fMul X1 (fMul (fSub (fMul (fSub X3 Z3) (fAdd X2 Z2)) (fMul (fAdd X3 Z3) (fSub X2 Z2))) (fSub (fMul (fSub X3 Z3) (fAdd X2 Z2)) (fMul (fAdd X3 Z3) (fSub X2 Z2))))) j) := fun j hj => by rw [g17 s (by omega)]; exact h16_s j hj
  have h17_123 : ∀ j, j < 10 → M17 123 j = lZ (X1 j) := fun j hj => by rw [g17 123 (by omega)]; exact h16_123 j hj
  have h17_128 : ∀ j, j < 10 → M17 128 j = lZ ((fMul (fAdd X2 Z2) (fAdd X2 Z2)) j) := fun j hj => by rw [g17 128 (by omega)]; exact h16_128 j hj
  have h17_129 : ∀ j, j < 10 → M17 129 j = lZ ((fSub (fMul (fAdd X2 Z2) (fAdd X2 Z2)) (fMul (fSub X2 Z2) (fSub X2 Z2))) j) := fun j hj => by rw [g17 129 (by omega)]; exact h16_129 j hj
  have h17_130 : ∀ j, j < 10 → M17 130 j = lZ ((fMul (fAdd X3 Z3) (fSub X2 Z2)) j) := fun j hj => by rw [g17 130 (by omega)]; exact h16_130 j hj
  have h17_131 : ∀ j, j < 10 → M17 131 j = lZ ((fMul (fSub X3 Z3) (fAdd X2 Z2)) j) := fun j hj => by rw [g17 131 (by omega)]; exact h16_131 j hj
  have fr17 : ∀ q', q' ∉ [p, q, r, s, 128, 129, 130, 131] → M17 q' = L q' := fun q' hq' => by
    rw [g17 q' (by simp at hq'; omega)]; exact fr16 q' hq'
  show hX z 0 0 (T, I, M17, R, A) [(0, .ref (A 121))] 251 []
  refine x_aload_n C dX1_step_251 0 rfl rfl ?_
  refine x_getrN C fl_X1_34 (xO.1 121 _ rfl).1 rfl (xO.2.1 121 7 _ rfl) dX1_step_252 ?_
  refine x_aload_n C dX1_step_255 0 rfl rfl ?_
  refine x_getrN C fl_X1_22 (xO.1 121 _ rfl).1 rfl hRq dX1_step_256 ?_
  refine x_aload_n C dX1_step_259 0 rfl rfl ?_
  refine x_getrN C fl_X1_22 (xO.1 121 _ rfl).1 rfl hRq dX1_step_260 ?_
  refine x_callS C (ok_X1_multiply 129 q q (fSub (fMul (fAdd X2 Z2) (fAdd X2 Z2)) (fMul (fSub X2 Z2) (fSub X2 Z2))) (fAdd (fMul (fAdd X2 Z2) (fAdd X2 Z2)) (fSc (fSub (fMul (fAdd X2 Z2) (fAdd X2 Z2)) (fMul (fSub X2 Z2) (fSub X2 Z2))))) (xO.1 129 _ rfl).1 (cvT xO hq).1 (cvT xO hq).1 (cvT xO hq).2 h17_129 i17 ((cvW.mul (bX2.add bZ2) (bX2.add bZ2)).sub (cvW.mul (bX2.sub bZ2) (bX2.sub bZ2))) ((cvW.mul (bX2.add bZ2) (bX2.add bZ2)).add (cvW.sc ((cvW.mul (bX2.add bZ2) (bX2.add bZ2)).sub (cvW.mul (bX2.sub bZ2) (bX2.sub bZ2)))))) ms_X1_multiply ml_X1_71 rfl rfl (Nat.le_of_ble_eq_true rfl) (hrm (rm := { frames := 0, cells := 0, slots := 0, locals := 0 }) hZ ⟨Nat.le_of_ble_eq_true rfl, Nat.le_of_ble_eq_true rfl⟩) (hcs hZ ⟨Nat.le_of_ble_eq_true rfl, Nat.le_of_ble_eq_true rfl⟩) dX1_step_263 (fun v G' hp => ?_)
  obtain ⟨rfl, M18, rfl, i18, g18⟩ := hp
  have h18_p : ∀ j, j < 10 → M18 p j = lZ ((fMul (fMul (fAdd X2 Z2) (fAdd X2 Z2)) (fMul (fSub X2 Z2) (fSub X2 Z2))) j) := fun j hj => by rw [g18 p (by omega)]; exact h17_p j hj
  have h18_r : ∀ j, j < 10 → M18 r j = lZ ((fMul (fAdd (fMul (fSub X3 Z3) (fAdd X2 Z2)) (fMul (fAdd X3 Z3) (fSub X2 Z2))) (fAdd (fMul (fSub X3 Z3) (fAdd X2 Z2)) (fMul (fAdd X3 Z3) (fSub X2 Z2)))) j) := fun j hj => by rw [g18 r (by omega)]; exact h17_r j hj
  have h18_s : ∀ j, j < 10 → M18 s j = lZ ((fMul X1 (fMul (fSub (fMul (fSub X3 Z3) (fAdd X2 Z2)) (fMul (fAdd X3 Z3) (fSub X2 Z2))) (fSub (fMul (fSub X3 Z3) (fAdd X2 Z2)) (fMul (fAdd X3 Z3) (fSub X2 Z2))))) j) := fun j hj => by rw [g18 s (by omega)]; exact h17_s j hj
  have h18_123 : ∀ j, j < 10 → M18 123 j = lZ (X1 j) := fun j hj => by rw [g18 123 (by omega)]; exact h17_123 j hj
  have h18_128 : ∀ j, j < 10 → M18 128 j = lZ ((fMul (fAdd X2 Z2) (fAdd X2 Z2)) j) := fun j hj => by rw [g18 128 (by omega)]; exact h17_128 j hj
  have h18_129 : ∀ j, j < 10 → M18 129 j = lZ ((fSub (fMul (fAdd X2 Z2) (fAdd X2 Z2)) (fMul (fSub X2 Z2) (fSub X2 Z2))) j) := fun j hj => by rw [g18 129 (by omega)]; exact h17_129 j hj
  have h18_130 : ∀ j, j < 10 → M18 130 j = lZ ((fMul (fAdd X3 Z3) (fSub X2 Z2)) j) := fun j hj => by rw [g18 130 (by omega)]; exact h17_130 j hj
  have h18_131 : ∀ j, j < 10 → M18 131 j = lZ ((fMul (fSub X3 Z3) (fAdd X2 Z2)) j) := fun j hj => by rw [g18 131 (by omega)]; exact h17_131 j hj
  have fr18 : ∀ q', q' ∉ [p, q, r, s, 128, 129, 130, 131] → M18 q' = L q' := fun q' hq' => by
    rw [g18 q' (by simp at hq'; omega)]; exact fr17 q' hq'
  show hX z 0 0 (T, I, M18, R, A) [(0, .ref (A 121))] 266 []
  exact x_vret C E (Nat.le_of_ble_eq_true rfl) (Nat.le_of_ble_eq_true rfl) dX1_step_266 (⟨rfl, M18, rfl, h18_123, h18_p, i18, h18_r, h18_s, fr18⟩)

