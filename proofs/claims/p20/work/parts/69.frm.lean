/-! ===== the model on a fresh object ===== -/
theorem bI_T {b : Bool} (h : ¬ bI b = 0) : b = true := by cases b <;> first | rfl | exact absurd (by decide +kernel) h
theorem bI_F {b : Bool} (h : bI b = 0) : b = false := by cases b <;> first | rfl | exact absurd h (by decide +kernel)
theorem in_m1 (p : Int32) : decide (nI 0 ≤ p ∧ p ≤ nI 0 - nI 1) = false := by
  apply decide_eq_false
  rintro ⟨h1, h2⟩
  exact absurd (Int32.le_trans h1 h2) (by decide +kernel)
theorem in_02 {p : Int32} (h : nI 0 ≤ p ∧ p ≤ nI 2) : p = nI 0 ∨ p = nI 1 ∨ p = nI 2 := by
  have g0 := Int32.le_iff_toInt_le.mp h.1
  have g1 := Int32.le_iff_toInt_le.mp h.2
  rw [nI_tI (by decide)] at g0 g1
  rcases (show p.toInt = ((0 : Nat) : Int) ∨ p.toInt = ((1 : Nat) : Int) ∨ p.toInt = ((2 : Nat) : Int) by omega) with e | e | e
  · exact Or.inl (sw_nI (by decide) e)
  · exact Or.inr (Or.inl (sw_nI (by decide) e))
  · exact Or.inr (Or.inr (sw_nI (by decide) e))
theorem in_of {p : Int32} {n : Nat} (h : nI 0 ≤ p ∧ p ≤ nI n) (hn : n < 2 ^ 31) : ∃ k, k ≤ n ∧ p = nI k := by
  have g0 := Int32.le_iff_toInt_le.mp h.1
  have g1 := Int32.le_iff_toInt_le.mp h.2
  rw [nI_tI (by decide)] at g0
  rw [nI_tI hn] at g1
  exact ⟨p.toInt.toNat, by omega, sw_nI (by omega) (by omega)⟩
theorem in_18 {p : Int32} (h : nI 1 ≤ p ∧ p ≤ nI 8) : ∃ k, 1 ≤ k ∧ k ≤ 8 ∧ p = nI k := nI_18 (Int32.not_lt.mpr h.1) h.2
/-- a byte of what is fed, as the model has it -/
def fedM (w : Int64) (vi : Int32) : Int32 := Int64.toInt32 (lsr w (nI 8 * vi)) &&& nI 255
set_option maxHeartbeats 4000000 in
set_option maxRecDepth 100000 in
theorem of_X11_isPattern {l : Launch} {a0 : Nat} {D : va_G} {sa : Nat → Nat} {T : Nat → Option hKd} {I : Nat → Nat → Int32} {L : Nat → Nat → Int64} {R : Nat → Nat → Option Nat} {A : Nat → Nat} (mO : isM T R A a0) (f : frM I) (p : Int32) : hM l a0 D sa yX11_isPattern cX11_isPattern 2 (some .boolean) { frames := 1, cells := 0, slots := 0, locals := 22 } [.ref (A 63), .int p] (T, I, L, R, A) (fun r G' => r = some (.int (nI 0)) ∧ G' = (T, I, L, R, A)) := by
  refine hM.of (by decide +kernel) (Nat.le_of_ble_eq_true rfl) ?_
  intro z hl h0 hD hS hN C E
  subst hl; subst h0; subst hD; subst hS
  have C : hC z RX11 cX11_isPattern := C
  have hZ := E.2.2.2.1
  show hX z 0 0 (T, I, L, R, A) [(0, .ref (A 63)), (1, .int p)] 0 []
  refine x_iload_n C dX11_isPattern_0 1 rfl rfl ?_
  refine x_iconst (v := nI 0) C dX11_isPattern_1 (by decide +kernel) ?_
  refine x_aload_n C dX11_isPattern_2 0 rfl rfl ?_
  refine x_getiN C fl_X11_363 mO.1 rfl dX11_isPattern_3 ?_
  refine x_eqi (y := nI 0) f.1 ?_
  refine x_iconst (v := nI 1) C dX11_isPattern_6 (by decide +kernel) ?_
  refine x_isub C dX11_isPattern_7 ?_
  refine x_callS C (ok_X11_in p (nI 0) ((nI 0) - (nI 1))) ms_X11_in ml_X11_366 rfl rfl (Nat.le_of_ble_eq_true rfl) (hrm (rm := { frames := 0, cells := 0, slots := 0, locals := 0 }) hZ ⟨Nat.le_of_ble_eq_true rfl, Nat.le_of_ble_eq_true rfl⟩) (hcs hZ ⟨Nat.le_of_ble_eq_true rfl, Nat.le_of_ble_eq_true rfl⟩) dX11_isPattern_8 (fun v G' hp => ?_)
  obtain ⟨rfl, rfl⟩ := hp
  show hX z 0 0 (T, I, L, R, A) [(0, .ref (A 63)), (1, .int p)] 11 [.int (bI (decide ((nI 0) ≤ p ∧ p ≤ ((nI 0) - (nI 1)))))]
  refine x_eqi (y := nI 0) (by rw [in_m1]; rfl) ?_
  exact x_zret C E (by first | exact Or.inl rfl | exact Or.inr rfl | assumption) (Nat.le_of_ble_eq_true rfl) (Nat.le_of_ble_eq_true rfl) dX11_isPattern_11 (⟨rfl, rfl⟩)

set_option maxHeartbeats 4000000 in
set_option maxRecDepth 100000 in
theorem of_X11_isSide {l : Launch} {a0 : Nat} {D : va_G} {sa : Nat → Nat} {T : Nat → Option hKd} {I : Nat → Nat → Int32} {L : Nat → Nat → Int64} {R : Nat → Nat → Option Nat} {A : Nat → Nat} (mO : isM T R A a0) (f : frM I) (p : Int32) : hM l a0 D sa yX11_isSide cX11_isSide 2 (some .boolean) { frames := 1, cells := 0, slots := 0, locals := 22 } [.ref (A 63), .int p] (T, I, L, R, A) (fun r G' => r = some (.int (nI 0)) ∧ G' = (T, I, L, R, A)) := by
  refine hM.of (by decide +kernel) (Nat.le_of_ble_eq_true rfl) ?_
  intro z hl h0 hD hS hN C E
  subst hl; subst h0; subst hD; subst hS
  have C : hC z RX11 cX11_isSide := C
  have hZ := E.2.2.2.1
  show hX z 0 0 (T, I, L, R, A) [(0, .ref (A 63)), (1, .int p)] 0 []
  refine x_iload_n C dX11_isSide_0 1 rfl rfl ?_
  refine x_iconst (v := nI 0) C dX11_isSide_1 (by decide +kernel) ?_
  refine x_aload_n C dX11_isSide_2 0 rfl rfl ?_
  refine x_getiN C fl_X11_370 mO.1 rfl dX11_isSide_3 ?_
  refine x_eqi (y := nI 0) f.2.1 ?_
  refine x_iconst (v := nI 1) C dX11_isSide_6 (by decide +kernel) ?_
  refine x_isub C dX11_isSide_7 ?_
  refine x_callS C (ok_X11_in p (nI 0) ((nI 0) - (nI 1))) ms_X11_in ml_X11_366 rfl rfl (Nat.le_of_ble_eq_true rfl) (hrm (rm := { frames := 0, cells := 0, slots := 0, locals := 0 }) hZ ⟨Nat.le_of_ble_eq_true rfl, Nat.le_of_ble_eq_true rfl⟩) (hcs hZ ⟨Nat.le_of_ble_eq_true rfl, Nat.le_of_ble_eq_true rfl⟩) dX11_isSide_8 (fun v G' hp => ?_)
  obtain ⟨rfl, rfl⟩ := hp
  show hX z 0 0 (T, I, L, R, A) [(0, .ref (A 63)), (1, .int p)] 11 [.int (bI (decide ((nI 0) ≤ p ∧ p ≤ ((nI 0) - (nI 1)))))]
  refine x_eqi (y := nI 0) (by rw [in_m1]; rfl) ?_
  exact x_zret C E (by first | exact Or.inl rfl | exact Or.inr rfl | assumption) (Nat.le_of_ble_eq_true rfl) (Nat.le_of_ble_eq_true rfl) dX11_isSide_11 (⟨rfl, rfl⟩)

set_option maxHeartbeats 4000000 in
set_option maxRecDepth 100000 in
theorem of_X11_message {l : Launch} {a0 : Nat} {D : va_G} {sa : Nat → Nat} {T : Nat → Option hKd} {I : Nat → Nat → Int32} {L : Nat → Nat → Int64} {R : Nat → Nat → Option Nat} {A : Nat → Nat} (mO : isM T R A a0) (f : frM I) (p : Int32) : hM l a0 D sa yX11_message cX11_message 2 (some .int) { frames := 2, cells := 0, slots := 0, locals := 43 } [.ref (A 63), .int p] (T, I, L, R, A) (fun r G' => r = some (.int (-2)) ∧ G' = (T, I, L, R, A)) := by
  refine hM.of (by decide +kernel) (Nat.le_of_ble_eq_true rfl) ?_
  intro z hl h0 hD hS hN C E
  subst hl; subst h0; subst hD; subst hS
  have C : hC z RX11 cX11_message := C
  have hZ := E.2.2.2.1
  show hX z 0 0 (T, I, L, R, A) [(0, .ref (A 63)), (1, .int p)] 0 []
  refine x_aload_n C dX11_message_0 0 rfl rfl ?_
  refine x_iload_n C dX11_message_1 1 rfl rfl ?_
  refine x_callV C (of_X11_isPattern mO f p) mv_X11_isPattern ml_X11_373 mO.1 rfl rfl rfl (Nat.le_of_ble_eq_true rfl) (hrm (rm := { frames := 0, cells := 0, slots := 0, locals := 0 }) hZ ⟨Nat.le_of_ble_eq_true rfl, Nat.le_of_ble_eq_true rfl⟩) (hcs hZ ⟨Nat.le_of_ble_eq_true rfl, Nat.le_of_ble_eq_true rfl⟩) dX11_message_2 (fun v G' hp => ?_)
  obtain ⟨rfl, rfl⟩ := hp
  show hX z 0 0 (T, I, L, R, A) [(0, .ref (A 63)), (1, .int p)] 5 [.int (nI 0)]
  refine x_if_neN (tgt := 11) C (by omega) dX11_message_5 (by decide) (fun c5 => absurd c5 (by omega)) (fun c5 => ?_)
  refine x_bipush (v := (-2)) C dX11_message_8 (by decide +kernel) ?_
  exact x_iret C E (Nat.le_of_ble_eq_true rfl) (Nat.le_of_ble_eq_true rfl) dX11_message_10 (⟨rfl, rfl⟩)

set_option maxHeartbeats 4000000 in
set_option maxRecDepth 100000 in
theorem of_X11_token {l : Launch} {a0 : Nat} {D : va_G} {sa : Nat → Nat} {T : Nat → Option hKd} {I : Nat → Nat → Int32} {L : Nat → Nat → Int64} {R : Nat → Nat → Option Nat} {A : Nat → Nat} (mO : isM T R A a0) (f : frM I) (p q : Int32) : hM l a0 D sa yX11_token cX11_token 4 (some .int) { frames := 2, cells := 0, slots := 0, locals := 43 } [.ref (A 63), .int p, .int q] (T, I, L, R, A) (fun r G' => r = some (.int (-2)) ∧ G' = (T, I, L, R, A)) := by
  refine hM.of (by decide +kernel) (Nat.le_of_ble_eq_true rfl) ?_
  intro z hl h0 hD hS hN C E
  subst hl; subst h0; subst hD; subst hS
  have C : hC z RX11 cX11_token := C
  have hZ := E.2.2.2.1
  show hX z 0 0 (T, I, L, R, A) [(0, .ref (A 63)), (1, .int p), (2, .int q)] 0 []
  refine x_aload_n C dX11_token_0 0 rfl rfl ?_
  refine x_iload_n C dX11_token_1 1 rfl rfl ?_
  refine x_callV C (of_X11_isPattern mO f p) mv_X11_isPattern ml_X11_373 mO.1 rfl rfl rfl (Nat.le_of_ble_eq_true rfl) (hrm (rm := { frames := 0, cells := 0, slots := 0, locals := 0 }) hZ ⟨Nat.le_of_ble_eq_true rfl, Nat.le_of_ble_eq_true rfl⟩) (hcs hZ ⟨Nat.le_of_ble_eq_true rfl, Nat.le_of_ble_eq_true rfl⟩) dX11_token_2 (fun v G' hp => ?_)
  obtain ⟨rfl, rfl⟩ := hp
  show hX z 0 0 (T, I, L, R, A) [(0, .ref (A 63)), (1, .int p), (2, .int q)] 5 [.int (nI 0)]
  refine x_if_eqN (tgt := 17) C (by omega) dX11_token_5 (by decide) (fun c5 => ?_) (fun c5 => absurd c5 (by omega))
  refine x_bipush (v := (-2)) C dX11_token_17 (by decide +kernel) ?_
  exact x_iret C E (Nat.le_of_ble_eq_true rfl) (Nat.le_of_ble_eq_true rfl) dX11_token_19 (⟨rfl, rfl⟩)

set_option maxHeartbeats 4000000 in
set_option maxRecDepth 100000 in
theorem of_X11_fault {l : Launch} {a0 : Nat} {D : va_G} {sa : Nat → Nat} {T : Nat → Option hKd} {I : Nat → Nat → Int32} {L : Nat → Nat → Int64} {R : Nat → Nat → Option Nat} {A : Nat → Nat} (mO : isM T R A a0) (f : frM I) (p : Int32) : hM l a0 D sa yX11_fault cX11_fault 2 (some .int) { frames := 2, cells := 0, slots := 0, locals := 43 } [.ref (A 63), .int p] (T, I, L, R, A) (fun r G' => r = some (.int (-2)) ∧ G' = (T, I, L, R, A)) := by
  refine hM.of (by decide +kernel) (Nat.le_of_ble_eq_true rfl) ?_
  intro z hl h0 hD hS hN C E
  subst hl; subst h0; subst hD; subst hS
  have C : hC z RX11 cX11_fault := C
  have hZ := E.2.2.2.1
  show hX z 0 0 (T, I, L, R, A) [(0, .ref (A 63)), (1, .int p)] 0 []
  refine x_aload_n C dX11_fault_0 0 rfl rfl ?_
  refine x_iload_n C dX11_fault_1 1 rfl rfl ?_
  refine x_callV C (of_X11_isPattern mO f p) mv_X11_isPattern ml_X11_373 mO.1 rfl rfl rfl (Nat.le_of_ble_eq_true rfl) (hrm (rm := { frames := 0, cells := 0, slots := 0, locals := 0 }) hZ ⟨Nat.le_of_ble_eq_true rfl, Nat.le_of_ble_eq_true rfl⟩) (hcs hZ ⟨Nat.le_of_ble_eq_true rfl, Nat.le_of_ble_eq_true rfl⟩) dX11_fault_2 (fun v G' hp => ?_)
  obtain ⟨rfl, rfl⟩ := hp
  show hX z 0 0 (T, I, L, R, A) [(0, .ref (A 63)), (1, .int p)] 5 [.int (nI 0)]
  refine x_if_eqN (tgt := 16) C (by omega) dX11_fault_5 (by decide) (fun c5 => ?_) (fun c5 => absurd c5 (by omega))
  refine x_bipush (v := (-2)) C dX11_fault_16 (by decide +kernel) ?_
  exact x_iret C E (Nat.le_of_ble_eq_true rfl) (Nat.le_of_ble_eq_true rfl) dX11_fault_18 (⟨rfl, rfl⟩)

set_option maxHeartbeats 4000000 in
set_option maxRecDepth 100000 in
theorem of_X11_told {l : Launch} {a0 : Nat} {D : va_G} {sa : Nat → Nat} {T : Nat → Option hKd} {I : Nat → Nat → Int32} {L : Nat → Nat → Int64} {R : Nat → Nat → Option Nat} {A : Nat → Nat} (mO : isM T R A a0) (f : frM I) (p q : Int32) : hM l a0 D sa yX11_told cX11_told 6 (some .int) { frames := 2, cells := 0, slots := 0, locals := 43 } [.ref (A 63), .int p, .int q] (T, I, L, R, A) (fun r G' => r = some (.int (-2)) ∧ G' = (T, I, L, R, A)) := by
  refine hM.of (by decide +kernel) (Nat.le_of_ble_eq_true rfl) ?_
  intro z hl h0 hD hS hN C E
  subst hl; subst h0; subst hD; subst hS
  have C : hC z RX11 cX11_told := C
  have hZ := E.2.2.2.1
  show hX z 0 0 (T, I, L, R, A) [(0, .ref (A 63)), (1, .int p), (2, .int q)] 0 []
  refine x_aload_n C dX11_told_0 0 rfl rfl ?_
  refine x_iload_n C dX11_told_1 1 rfl rfl ?_
  refine x_callV C (of_X11_isPattern mO f p) mv_X11_isPattern ml_X11_373 mO.1 rfl rfl rfl (Nat.le_of_ble_eq_true rfl) (hrm (rm := { frames := 0, cells := 0, slots := 0, locals := 0 }) hZ ⟨Nat.le_of_ble_eq_true rfl, Nat.le_of_ble_eq_true rfl⟩) (hcs hZ ⟨Nat.le_of_ble_eq_true rfl, Nat.le_of_ble_eq_true rfl⟩) dX11_told_2 (fun v G' hp => ?_)
  obtain ⟨rfl, rfl⟩ := hp
  show hX z 0 0 (T, I, L, R, A) [(0, .ref (A 63)), (1, .int p), (2, .int q)] 5 [.int (nI 0)]
  refine x_if_eqN (tgt := 18) C (by omega) dX11_told_5 (by decide) (fun c5 => ?_) (fun c5 => absurd c5 (by omega))
  refine x_bipush (v := (-2)) C dX11_told_18 (by decide +kernel) ?_
  exact x_iret C E (Nat.le_of_ble_eq_true rfl) (Nat.le_of_ble_eq_true rfl) dX11_told_20 (⟨rfl, rfl⟩)

set_option maxHeartbeats 4000000 in
set_option maxRecDepth 100000 in
theorem of_X11_side {l : Launch} {a0 : Nat} {D : va_G} {sa : Nat → Nat} {T : Nat → Option hKd} {I : Nat → Nat → Int32} {L : Nat → Nat → Int64} {R : Nat → Nat → Option Nat} {A : Nat → Nat} (mO : isM T R A a0) (f : frM I) (p q r s t : Int32) : hM l a0 D sa yX11_side cX11_side 8 (some .int) { frames := 2, cells := 0, slots := 0, locals := 43 } [.ref (A 63), .int p, .int q, .int r, .int s, .int t] (T, I, L, R, A) (fun r G' => r = some (.int (-2)) ∧ G' = (T, I, L, R, A)) := by
  refine hM.of (by decide +kernel) (Nat.le_of_ble_eq_true rfl) ?_
  intro z hl h0 hD hS hN C E
  subst hl; subst h0; subst hD; subst hS
  have C : hC z RX11 cX11_side := C
  have hZ := E.2.2.2.1
  show hX z 0 0 (T, I, L, R, A) [(0, .ref (A 63)), (1, .int p), (2, .int q), (3, .int r), (4, .int s), (5, .int t)] 0 []
  refine x_aload_n C dX11_side_0 0 rfl rfl ?_
  refine x_iload_n C dX11_side_1 1 rfl rfl ?_
  refine x_callV C (of_X11_isPattern mO f p) mv_X11_isPattern ml_X11_373 mO.1 rfl rfl rfl (Nat.le_of_ble_eq_true rfl) (hrm (rm := { frames := 0, cells := 0, slots := 0, locals := 0 }) hZ ⟨Nat.le_of_ble_eq_true rfl, Nat.le_of_ble_eq_true rfl⟩) (hcs hZ ⟨Nat.le_of_ble_eq_true rfl, Nat.le_of_ble_eq_true rfl⟩) dX11_side_2 (fun v G' hp => ?_)
  obtain ⟨rfl, rfl⟩ := hp
  show hX z 0 0 (T, I, L, R, A) [(0, .ref (A 63)), (1, .int p), (2, .int q), (3, .int r), (4, .int s), (5, .int t)] 5 [.int (nI 0)]
  refine x_if_eqN (tgt := 28) C (by omega) dX11_side_5 (by decide) (fun c5 => ?_) (fun c5 => absurd c5 (by omega))
  refine x_bipush (v := (-2)) C dX11_side_28 (by decide +kernel) ?_
  exact x_iret C E (Nat.le_of_ble_eq_true rfl) (Nat.le_of_ble_eq_true rfl) dX11_side_30 (⟨rfl, rfl⟩)

set_option maxHeartbeats 4000000 in
set_option maxRecDepth 100000 in
theorem of_X11_again {l : Launch} {a0 : Nat} {D : va_G} {sa : Nat → Nat} {T : Nat → Option hKd} {I : Nat → Nat → Int32} {L : Nat → Nat → Int64} {R : Nat → Nat → Option Nat} {A : Nat → Nat} (mO : isM T R A a0) (f : frM I) (p : Int32) : hM l a0 D sa yX11_again cX11_again 3 (some .int) { frames := 2, cells := 0, slots := 0, locals := 43 } [.ref (A 63), .int p] (T, I, L, R, A) (fun r G' => r = some (.int (-2)) ∧ G' = (T, I, L, R, A)) := by
  refine hM.of (by decide +kernel) (Nat.le_of_ble_eq_true rfl) ?_
  intro z hl h0 hD hS hN C E
  subst hl; subst h0; subst hD; subst hS
  have C : hC z RX11 cX11_again := C
  have hZ := E.2.2.2.1
  show hX z 0 0 (T, I, L, R, A) [(0, .ref (A 63)), (1, .int p)] 0 []
  refine x_aload_n C dX11_again_0 0 rfl rfl ?_
  refine x_iload_n C dX11_again_1 1 rfl rfl ?_
  refine x_callV C (of_X11_isSide mO f p) mv_X11_isSide ml_X11_415 mO.1 rfl rfl rfl (Nat.le_of_ble_eq_true rfl) (hrm (rm := { frames := 0, cells := 0, slots := 0, locals := 0 }) hZ ⟨Nat.le_of_ble_eq_true rfl, Nat.le_of_ble_eq_true rfl⟩) (hcs hZ ⟨Nat.le_of_ble_eq_true rfl, Nat.le_of_ble_eq_true rfl⟩) dX11_again_2 (fun v G' hp => ?_)
  obtain ⟨rfl, rfl⟩ := hp
  show hX z 0 0 (T, I, L, R, A) [(0, .ref (A 63)), (1, .int p)] 5 [.int (nI 0)]
  refine x_if_neN (tgt := 11) C (by omega) dX11_again_5 (by decide) (fun c5 => absurd c5 (by omega)) (fun c5 => ?_)
  refine x_bipush (v := (-2)) C dX11_again_8 (by decide +kernel) ?_
  exact x_iret C E (Nat.le_of_ble_eq_true rfl) (Nat.le_of_ble_eq_true rfl) dX11_again_10 (⟨rfl, rfl⟩)

set_option maxHeartbeats 4000000 in
set_option maxRecDepth 100000 in
theorem of_X11_write {l : Launch} {a0 : Nat} {D : va_G} {sa : Nat → Nat} {T : Nat → Option hKd} {I : Nat → Nat → Int32} {L : Nat → Nat → Int64} {R : Nat → Nat → Option Nat} {A : Nat → Nat} (mO : isM T R A a0) (f : frM I) (p : Int32) : hM l a0 D sa yX11_write cX11_write 5 (some .int) { frames := 2, cells := 0, slots := 0, locals := 43 } [.ref (A 63), .int p] (T, I, L, R, A) (fun r G' => r = some (.int (-2)) ∧ G' = (T, I, L, R, A)) := by
  refine hM.of (by decide +kernel) (Nat.le_of_ble_eq_true rfl) ?_
  intro z hl h0 hD hS hN C E
  subst hl; subst h0; subst hD; subst hS
  have C : hC z RX11 cX11_write := C
  have hZ := E.2.2.2.1
  show hX z 0 0 (T, I, L, R, A) [(0, .ref (A 63)), (1, .int p)] 0 []
  refine x_aload_n C dX11_write_0 0 rfl rfl ?_
  refine x_iload_n C dX11_write_1 1 rfl rfl ?_
  refine x_callV C (of_X11_isSide mO f p) mv_X11_isSide ml_X11_415 mO.1 rfl rfl rfl (Nat.le_of_ble_eq_true rfl) (hrm (rm := { frames := 0, cells := 0, slots := 0, locals := 0 }) hZ ⟨Nat.le_of_ble_eq_true rfl, Nat.le_of_ble_eq_true rfl⟩) (hcs hZ ⟨Nat.le_of_ble_eq_true rfl, Nat.le_of_ble_eq_true rfl⟩) dX11_write_2 (fun v G' hp => ?_)
  obtain ⟨rfl, rfl⟩ := hp
  show hX z 0 0 (T, I, L, R, A) [(0, .ref (A 63)), (1, .int p)] 5 [.int (nI 0)]
  refine x_if_neN (tgt := 11) C (by omega) dX11_write_5 (by decide) (fun c5 => absurd c5 (by omega)) (fun c5 => ?_)
  refine x_bipush (v := (-2)) C dX11_write_8 (by decide +kernel) ?_
  exact x_iret C E (Nat.le_of_ble_eq_true rfl) (Nat.le_of_ble_eq_true rfl) dX11_write_10 (⟨rfl, rfl⟩)

set_option maxHeartbeats 4000000 in
set_option maxRecDepth 100000 in
theorem of_X11_read {l : Launch} {a0 : Nat} {D : va_G} {sa : Nat → Nat} {T : Nat → Option hKd} {I : Nat → Nat → Int32} {L : Nat → Nat → Int64} {R : Nat → Nat → Option Nat} {A : Nat → Nat} (mO : isM T R A a0) (f : frM I) (p : Int32) : hM l a0 D sa yX11_read cX11_read 3 (some .int) { frames := 2, cells := 0, slots := 0, locals := 43 } [.ref (A 63), .int p] (T, I, L, R, A) (fun r G' => r = some (.int (-2)) ∧ G' = (T, I, L, R, A)) := by
  refine hM.of (by decide +kernel) (Nat.le_of_ble_eq_true rfl) ?_
  intro z hl h0 hD hS hN C E
  subst hl; subst h0; subst hD; subst hS
  have C : hC z RX11 cX11_read := C
  have hZ := E.2.2.2.1
  show hX z 0 0 (T, I, L, R, A) [(0, .ref (A 63)), (1, .int p)] 0 []
  refine x_aload_n C dX11_read_0 0 rfl rfl ?_
  refine x_iload_n C dX11_read_1 1 rfl rfl ?_
  refine x_callV C (of_X11_isSide mO f p) mv_X11_isSide ml_X11_415 mO.1 rfl rfl rfl (Nat.le_of_ble_eq_true rfl) (hrm (rm := { frames := 0, cells := 0, slots := 0, locals := 0 }) hZ ⟨Nat.le_of_ble_eq_true rfl, Nat.le_of_ble_eq_true rfl⟩) (hcs hZ ⟨Nat.le_of_ble_eq_true rfl, Nat.le_of_ble_eq_true rfl⟩) dX11_read_2 (fun v G' hp => ?_)
  obtain ⟨rfl, rfl⟩ := hp
  show hX z 0 0 (T, I, L, R, A) [(0, .ref (A 63)), (1, .int p)] 5 [.int (nI 0)]
  refine x_if_neN (tgt := 11) C (by omega) dX11_read_5 (by decide) (fun c5 => absurd c5 (by omega)) (fun c5 => ?_)
  refine x_bipush (v := (-2)) C dX11_read_8 (by decide +kernel) ?_
  exact x_iret C E (Nat.le_of_ble_eq_true rfl) (Nat.le_of_ble_eq_true rfl) dX11_read_10 (⟨rfl, rfl⟩)

set_option maxHeartbeats 4000000 in
set_option maxRecDepth 100000 in
theorem of_X11_hash {l : Launch} {a0 : Nat} {D : va_G} {sa : Nat → Nat} {T : Nat → Option hKd} {I : Nat → Nat → Int32} {L : Nat → Nat → Int64} {R : Nat → Nat → Option Nat} {A : Nat → Nat} (mO : isM T R A a0) (f : frM I) (p q : Int32) : hM l a0 D sa yX11_hash cX11_hash 3 (some .int) { frames := 2, cells := 0, slots := 0, locals := 43 } [.ref (A 63), .int p, .int q] (T, I, L, R, A) (fun r G' => r = some (.int (-2)) ∧ G' = (T, I, L, R, A)) := by
  refine hM.of (by decide +kernel) (Nat.le_of_ble_eq_true rfl) ?_
  intro z hl h0 hD hS hN C E
  subst hl; subst h0; subst hD; subst hS
  have C : hC z RX11 cX11_hash := C
  have hZ := E.2.2.2.1
  show hX z 0 0 (T, I, L, R, A) [(0, .ref (A 63)), (1, .int p), (2, .int q)] 0 []
  refine x_aload_n C dX11_hash_0 0 rfl rfl ?_
  refine x_iload_n C dX11_hash_1 1 rfl rfl ?_
  refine x_callV C (of_X11_isSide mO f p) mv_X11_isSide ml_X11_415 mO.1 rfl rfl rfl (Nat.le_of_ble_eq_true rfl) (hrm (rm := { frames := 0, cells := 0, slots := 0, locals := 0 }) hZ ⟨Nat.le_of_ble_eq_true rfl, Nat.le_of_ble_eq_true rfl⟩) (hcs hZ ⟨Nat.le_of_ble_eq_true rfl, Nat.le_of_ble_eq_true rfl⟩) dX11_hash_2 (fun v G' hp => ?_)
  obtain ⟨rfl, rfl⟩ := hp
  show hX z 0 0 (T, I, L, R, A) [(0, .ref (A 63)), (1, .int p), (2, .int q)] 5 [.int (nI 0)]
  refine x_if_eqN (tgt := 32) C (by omega) dX11_hash_5 (by decide) (fun c5 => ?_) (fun c5 => absurd c5 (by omega))
  refine x_bipush (v := (-2)) C dX11_hash_32 (by decide +kernel) ?_
  exact x_iret C E (Nat.le_of_ble_eq_true rfl) (Nat.le_of_ble_eq_true rfl) dX11_hash_34 (⟨rfl, rfl⟩)

set_option maxHeartbeats 4000000 in
set_option maxRecDepth 100000 in
theorem of_X11_about {l : Launch} {a0 : Nat} {D : va_G} {sa : Nat → Nat} {T : Nat → Option hKd} {I : Nat → Nat → Int32} {L : Nat → Nat → Int64} {R : Nat → Nat → Option Nat} {A : Nat → Nat} (mO : isM T R A a0) (f : frM I) (p q : Int32) : hM l a0 D sa yX11_about cX11_about 3 (some .int) { frames := 2, cells := 0, slots := 0, locals := 43 } [.ref (A 63), .int p, .int q] (T, I, L, R, A) (fun r G' => r = some (.int (-2)) ∧ G' = (T, I, L, R, A)) := by
  refine hM.of (by decide +kernel) (Nat.le_of_ble_eq_true rfl) ?_
  intro z hl h0 hD hS hN C E
  subst hl; subst h0; subst hD; subst hS
  have C : hC z RX11 cX11_about := C
  have hZ := E.2.2.2.1
  show hX z 0 0 (T, I, L, R, A) [(0, .ref (A 63)), (1, .int p), (2, .int q)] 0 []
  refine x_aload_n C dX11_about_0 0 rfl rfl ?_
  refine x_iload_n C dX11_about_1 1 rfl rfl ?_
  refine x_callV C (of_X11_isSide mO f p) mv_X11_isSide ml_X11_415 mO.1 rfl rfl rfl (Nat.le_of_ble_eq_true rfl) (hrm (rm := { frames := 0, cells := 0, slots := 0, locals := 0 }) hZ ⟨Nat.le_of_ble_eq_true rfl, Nat.le_of_ble_eq_true rfl⟩) (hcs hZ ⟨Nat.le_of_ble_eq_true rfl, Nat.le_of_ble_eq_true rfl⟩) dX11_about_2 (fun v G' hp => ?_)
  obtain ⟨rfl, rfl⟩ := hp
  show hX z 0 0 (T, I, L, R, A) [(0, .ref (A 63)), (1, .int p), (2, .int q)] 5 [.int (nI 0)]
  refine x_if_eqN (tgt := 27) C (by omega) dX11_about_5 (by decide) (fun c5 => ?_) (fun c5 => absurd c5 (by omega))
  refine x_bipush (v := (-2)) C dX11_about_27 (by decide +kernel) ?_
  exact x_iret C E (Nat.le_of_ble_eq_true rfl) (Nat.le_of_ble_eq_true rfl) dX11_about_29 (⟨rfl, rfl⟩)

set_option maxHeartbeats 4000000 in
set_option maxRecDepth 100000 in
theorem of_X11_same {l : Launch} {a0 : Nat} {D : va_G} {sa : Nat → Nat} {T : Nat → Option hKd} {I : Nat → Nat → Int32} {L : Nat → Nat → Int64} {R : Nat → Nat → Option Nat} {A : Nat → Nat} (mO : isM T R A a0) (f : frM I) (p q : Int32) : hM l a0 D sa yX11_same cX11_same 7 (some .int) { frames := 2, cells := 0, slots := 0, locals := 43 } [.ref (A 63), .int p, .int q] (T, I, L, R, A) (fun r G' => r = some (.int (-2)) ∧ G' = (T, I, L, R, A)) := by
  refine hM.of (by decide +kernel) (Nat.le_of_ble_eq_true rfl) ?_
  intro z hl h0 hD hS hN C E
  subst hl; subst h0; subst hD; subst hS
  have C : hC z RX11 cX11_same := C
  have hZ := E.2.2.2.1
  show hX z 0 0 (T, I, L, R, A) [(0, .ref (A 63)), (1, .int p), (2, .int q)] 0 []
  refine x_aload_n C dX11_same_0 0 rfl rfl ?_
  refine x_iload_n C dX11_same_1 1 rfl rfl ?_
  refine x_callV C (of_X11_isSide mO f p) mv_X11_isSide ml_X11_415 mO.1 rfl rfl rfl (Nat.le_of_ble_eq_true rfl) (hrm (rm := { frames := 0, cells := 0, slots := 0, locals := 0 }) hZ ⟨Nat.le_of_ble_eq_true rfl, Nat.le_of_ble_eq_true rfl⟩) (hcs hZ ⟨Nat.le_of_ble_eq_true rfl, Nat.le_of_ble_eq_true rfl⟩) dX11_same_2 (fun v G' hp => ?_)
  obtain ⟨rfl, rfl⟩ := hp
  show hX z 0 0 (T, I, L, R, A) [(0, .ref (A 63)), (1, .int p), (2, .int q)] 5 [.int (nI 0)]
  refine x_if_eqN (tgt := 16) C (by omega) dX11_same_5 (by decide) (fun c5 => ?_) (fun c5 => absurd c5 (by omega))
  refine x_bipush (v := (-2)) C dX11_same_16 (by decide +kernel) ?_
  exact x_iret C E (Nat.le_of_ble_eq_true rfl) (Nat.le_of_ble_eq_true rfl) dX11_same_18 (⟨rfl, rfl⟩)

set_option maxHeartbeats 4000000 in
set_option maxRecDepth 100000 in
theorem of_X11_alter {l : Launch} {a0 : Nat} {D : va_G} {sa : Nat → Nat} {T : Nat → Option hKd} {I : Nat → Nat → Int32} {L : Nat → Nat → Int64} {R : Nat → Nat → Option Nat} {A : Nat → Nat} (mO : isM T R A a0) (f : frM I) (i x : Int32) : hM l a0 D sa yX11_alter cX11_alter 4 (some .int) { frames := 1, cells := 0, slots := 0, locals := 22 } [.ref (A 63), .int i, .int x] (T, I, L, R, A) (fun r G' => r = some (.int (-2)) ∧ G' = (T, I, L, R, A)) := by
  refine hM.of (by decide +kernel) (Nat.le_of_ble_eq_true rfl) ?_
  intro z hl h0 hD hS hN C E
  subst hl; subst h0; subst hD; subst hS
  have C : hC z RX11 cX11_alter := C
  have hZ := E.2.2.2.1
  show hX z 0 0 (T, I, L, R, A) [(0, .ref (A 63)), (1, .int i), (2, .int x)] 0 []
  refine x_iload_n C dX11_alter_0 1 rfl rfl ?_
  refine x_iconst (v := nI 0) C dX11_alter_1 (by decide +kernel) ?_
  refine x_aload_n C dX11_alter_2 0 rfl rfl ?_
  refine x_getiN C fl_X11_450 mO.1 rfl dX11_alter_3 ?_
  refine x_eqi (y := nI 0) f.2.2.2.1 ?_
  refine x_iconst (v := nI 1) C dX11_alter_6 (by decide +kernel) ?_
  refine x_isub C dX11_alter_7 ?_
  refine x_callS C (ok_X11_in i (nI 0) ((nI 0) - (nI 1))) ms_X11_in ml_X11_366 rfl rfl (Nat.le_of_ble_eq_true rfl) (hrm (rm := { frames := 0, cells := 0, slots := 0, locals := 0 }) hZ ⟨Nat.le_of_ble_eq_true rfl, Nat.le_of_ble_eq_true rfl⟩) (hcs hZ ⟨Nat.le_of_ble_eq_true rfl, Nat.le_of_ble_eq_true rfl⟩) dX11_alter_8 (fun v G' hp => ?_)
  obtain ⟨rfl, rfl⟩ := hp
  show hX z 0 0 (T, I, L, R, A) [(0, .ref (A 63)), (1, .int i), (2, .int x)] 11 [.int (bI (decide ((nI 0) ≤ i ∧ i ≤ ((nI 0) - (nI 1)))))]
  refine x_eqi (y := nI 0) (by rw [in_m1]; rfl) ?_
  refine x_if_eqN (tgt := 25) C (by omega) dX11_alter_11 (by decide) (fun c11 => ?_) (fun c11 => absurd c11 (by omega))
  refine x_bipush (v := (-2)) C dX11_alter_25 (by decide +kernel) ?_
  exact x_iret C E (Nat.le_of_ble_eq_true rfl) (Nat.le_of_ble_eq_true rfl) dX11_alter_27 (⟨rfl, rfl⟩)

set_option maxHeartbeats 4000000 in
set_option maxRecDepth 100000 in
theorem of_X11_cut {l : Launch} {a0 : Nat} {D : va_G} {sa : Nat → Nat} {T : Nat → Option hKd} {I : Nat → Nat → Int32} {L : Nat → Nat → Int64} {R : Nat → Nat → Option Nat} {A : Nat → Nat} (mO : isM T R A a0) (f : frM I) (n : Int32) : hM l a0 D sa yX11_cut cX11_cut 3 (some .int) { frames := 1, cells := 0, slots := 0, locals := 22 } [.ref (A 63), .int n] (T, I, L, R, A) (fun r _ => r = some (.int (fCut n))) := by
  refine hM.of (by decide +kernel) (Nat.le_of_ble_eq_true rfl) ?_
  intro z hl h0 hD hS hN C E
  subst hl; subst h0; subst hD; subst hS
  have C : hC z RX11 cX11_cut := C
  have hZ := E.2.2.2.1
  show hX z 0 0 (T, I, L, R, A) [(0, .ref (A 63)), (1, .int n)] 0 []
  refine x_iload_n C dX11_cut_0 1 rfl rfl ?_
  refine x_iconst (v := nI 0) C dX11_cut_1 (by decide +kernel) ?_
  refine x_aload_n C dX11_cut_2 0 rfl rfl ?_
  refine x_getiN C fl_X11_450 mO.1 rfl dX11_cut_3 ?_
  refine x_eqi (y := nI 0) f.2.2.2.1 ?_
  refine x_callS C (ok_X11_in n (nI 0) (nI 0)) ms_X11_in ml_X11_366 rfl rfl (Nat.le_of_ble_eq_true rfl) (hrm (rm := { frames := 0, cells := 0, slots := 0, locals := 0 }) hZ ⟨Nat.le_of_ble_eq_true rfl, Nat.le_of_ble_eq_true rfl⟩) (hcs hZ ⟨Nat.le_of_ble_eq_true rfl, Nat.le_of_ble_eq_true rfl⟩) dX11_cut_6 (fun v G' hp => ?_)
  obtain ⟨rfl, rfl⟩ := hp
  show hX z 0 0 (T, I, L, R, A) [(0, .ref (A 63)), (1, .int n)] 9 [.int (bI (decide ((nI 0) ≤ n ∧ n ≤ (nI 0))))]
  refine x_if_ne (tgt := 15) C dX11_cut_9 (by decide) (fun c9 => ?_) (fun c9 => ?_)
  · refine x_aload_n C dX11_cut_15 0 rfl rfl ?_
    refine x_getiN C fl_X11_450 mO.1 rfl dX11_cut_16 ?_
    refine x_eqi (y := nI 0) f.2.2.2.1 ?_
    refine x_iload_n C dX11_cut_19 1 rfl rfl ?_
    refine x_isub C dX11_cut_20 ?_
    refine x_istore_n (lv' := [(2, .int ((nI 0) - n)), (0, .ref (A 63)), (1, .int n)]) C dX11_cut_21 rfl (Nat.lt_of_lt_of_eq (by decide) hN.symm) rfl ?_
    refine x_aload_n C dX11_cut_22 1 rfl rfl ?_
    refine x_iload_n C dX11_cut_23 2 rfl rfl ?_
    refine x_putiN C fl_X11_450 mO.1 mO.2.1 rfl dX11_cut_24 (fun I1 eI1 => ?_)
    refine x_iload_n C dX11_cut_27 0 rfl rfl ?_
    exact x_iret C E (Nat.le_of_ble_eq_true rfl) (Nat.le_of_ble_eq_true rfl) dX11_cut_28 (by have h := of_decide_eq_true (bI_T c9); have e : n = nI 0 := Int32.le_antisymm h.2 h.1; rw [e]; unfold fCut; rw [if_pos rfl]; rfl)
  · refine x_bipush (v := (-2)) C dX11_cut_12 (by decide +kernel) ?_
    exact x_iret C E (Nat.le_of_ble_eq_true rfl) (Nat.le_of_ble_eq_true rfl) dX11_cut_14 (by have h := of_decide_eq_false (bI_F c9); unfold fCut; rw [if_neg (by intro e; exact h ⟨by rw [e]; exact Int32.le_refl _, by rw [e]; exact Int32.le_refl _⟩)])

set_option maxHeartbeats 4000000 in
set_option maxRecDepth 100000 in
theorem of_X11_byteOf {l : Launch} {a0 : Nat} {D : va_G} {sa : Nat → Nat} {T : Nat → Option hKd} {I : Nat → Nat → Int32} {L : Nat → Nat → Int64} {R : Nat → Nat → Option Nat} {A : Nat → Nat} (mO : isM T R A a0) (f : frM I) (w i : Int32) : hM l a0 D sa yX11_byteOf cX11_byteOf 4 (some .int) { frames := 1, cells := 0, slots := 0, locals := 22 } [.ref (A 63), .int w, .int i] (T, I, L, R, A) (fun r G' => r = some (.int (fByt w)) ∧ G' = (T, I, L, R, A)) := by
  refine hM.of (by decide +kernel) (Nat.le_of_ble_eq_true rfl) ?_
  intro z hl h0 hD hS hN C E
  subst hl; subst h0; subst hD; subst hS
  have C : hC z RX11 cX11_byteOf := C
  have hZ := E.2.2.2.1
  show hX z 0 0 (T, I, L, R, A) [(0, .ref (A 63)), (1, .int w), (2, .int i)] 0 []
  refine x_iload_n C dX11_byteOf_0 1 rfl rfl ?_
  refine x_iconst (v := nI 0) C dX11_byteOf_1 (by decide +kernel) ?_
  refine x_iconst (v := nI 2) C dX11_byteOf_2 (by decide +kernel) ?_
  refine x_callS C (ok_X11_in w (nI 0) (nI 2)) ms_X11_in ml_X11_366 rfl rfl (Nat.le_of_ble_eq_true rfl) (hrm (rm := { frames := 0, cells := 0, slots := 0, locals := 0 }) hZ ⟨Nat.le_of_ble_eq_true rfl, Nat.le_of_ble_eq_true rfl⟩) (hcs hZ ⟨Nat.le_of_ble_eq_true rfl, Nat.le_of_ble_eq_true rfl⟩) dX11_byteOf_3 (fun v G' hp => ?_)
  obtain ⟨rfl, rfl⟩ := hp
  show hX z 0 0 (T, I, L, R, A) [(0, .ref (A 63)), (1, .int w), (2, .int i)] 6 [.int (bI (decide ((nI 0) ≤ w ∧ w ≤ (nI 2))))]
  refine x_if_ne (tgt := 12) C dX11_byteOf_6 (by decide) (fun c6 => ?_) (fun c6 => ?_)
  · refine x_iload_n C dX11_byteOf_12 1 rfl rfl ?_
    refine x_if_ne (tgt := 23) C dX11_byteOf_13 (by decide) (fun c13 => ?_) (fun c13 => ?_)
    · refine x_iload_n C dX11_byteOf_23 1 rfl rfl ?_
      refine x_iconst (v := nI 1) C dX11_byteOf_24 (by decide +kernel) ?_
      refine x_icmp_ne (tgt := 35) C dX11_byteOf_25 (by decide) (fun c25 => ?_) (fun c25 => ?_)
      · refine x_aload_n C dX11_byteOf_35 0 rfl rfl ?_
        refine x_getiN C fl_X11_418 mO.1 rfl dX11_byteOf_36 ?_
        refine x_eqi (y := nI 0) f.2.2.1 ?_
        refine x_istore_n (lv' := [(3, .int (nI 0)), (0, .ref (A 63)), (1, .int w), (2, .int i)]) C dX11_byteOf_39 rfl (Nat.lt_of_lt_of_eq (by decide) hN.symm) rfl ?_
        refine x_iload_n C dX11_byteOf_40 3 rfl rfl ?_
        refine x_iconst (v := nI 0) C dX11_byteOf_41 (by decide +kernel) ?_
        refine x_iload_n C dX11_byteOf_42 0 rfl rfl ?_
        refine x_iconst (v := nI 1) C dX11_byteOf_43 (by decide +kernel) ?_
        refine x_isub C dX11_byteOf_44 ?_
        refine x_callS C (ok_X11_in i (nI 0) ((nI 0) - (nI 1))) ms_X11_in ml_X11_366 rfl rfl (Nat.le_of_ble_eq_true rfl) (hrm (rm := { frames := 0, cells := 0, slots := 0, locals := 0 }) hZ ⟨Nat.le_of_ble_eq_true rfl, Nat.le_of_ble_eq_true rfl⟩) (hcs hZ ⟨Nat.le_of_ble_eq_true rfl, Nat.le_of_ble_eq_true rfl⟩) dX11_byteOf_45 (fun v G' hp => ?_)
        obtain ⟨rfl, rfl⟩ := hp
        show hX z 0 0 (T, I, L, R, A) [(3, .int (nI 0)), (0, .ref (A 63)), (1, .int w), (2, .int i)] 48 [.int (bI (decide ((nI 0) ≤ i ∧ i ≤ ((nI 0) - (nI 1)))))]
        refine x_eqi (y := nI 0) (by rw [in_m1]; rfl) ?_
        refine x_if_neN (tgt := 55) C (by omega) dX11_byteOf_48 (by decide) (fun c48 => absurd c48 (by omega)) (fun c48 => ?_)
        refine x_iconst (v := (-1)) C dX11_byteOf_51 (by decide +kernel) ?_
        refine x_goto (tgt := 88) C dX11_byteOf_52 (by decide) ?_
        exact x_iret C E (Nat.le_of_ble_eq_true rfl) (Nat.le_of_ble_eq_true rfl) dX11_byteOf_88 (⟨by have h := in_02 (of_decide_eq_true (bI_T c6)); unfold fByt; rw [if_pos h], rfl⟩)
      · refine x_aload_n C dX11_byteOf_28 0 rfl rfl ?_
        refine x_getiN C fl_X11_457 mO.1 rfl dX11_byteOf_29 ?_
        refine x_eqi (y := nI 0) f.2.2.2.2 ?_
        refine x_goto (tgt := 39) C dX11_byteOf_32 (by decide) ?_
        refine x_istore_n (lv' := [(3, .int (nI 0)), (0, .ref (A 63)), (1, .int w), (2, .int i)]) C dX11_byteOf_39 rfl (Nat.lt_of_lt_of_eq (by decide) hN.symm) rfl ?_
        refine x_iload_n C dX11_byteOf_40 3 rfl rfl ?_
        refine x_iconst (v := nI 0) C dX11_byteOf_41 (by decide +kernel) ?_
        refine x_iload_n C dX11_byteOf_42 0 rfl rfl ?_
        refine x_iconst (v := nI 1) C dX11_byteOf_43 (by decide +kernel) ?_
        refine x_isub C dX11_byteOf_44 ?_
        refine x_callS C (ok_X11_in i (nI 0) ((nI 0) - (nI 1))) ms_X11_in ml_X11_366 rfl rfl (Nat.le_of_ble_eq_true rfl) (hrm (rm := { frames := 0, cells := 0, slots := 0, locals := 0 }) hZ ⟨Nat.le_of_ble_eq_true rfl, Nat.le_of_ble_eq_true rfl⟩) (hcs hZ ⟨Nat.le_of_ble_eq_true rfl, Nat.le_of_ble_eq_true rfl⟩) dX11_byteOf_45 (fun v G' hp => ?_)
        obtain ⟨rfl, rfl⟩ := hp
        show hX z 0 0 (T, I, L, R, A) [(3, .int (nI 0)), (0, .ref (A 63)), (1, .int w), (2, .int i)] 48 [.int (bI (decide ((nI 0) ≤ i ∧ i ≤ ((nI 0) - (nI 1)))))]
        refine x_eqi (y := nI 0) (by rw [in_m1]; rfl) ?_
        refine x_if_neN (tgt := 55) C (by omega) dX11_byteOf_48 (by decide) (fun c48 => absurd c48 (by omega)) (fun c48 => ?_)
        refine x_iconst (v := (-1)) C dX11_byteOf_51 (by decide +kernel) ?_
        refine x_goto (tgt := 88) C dX11_byteOf_52 (by decide) ?_
        exact x_iret C E (Nat.le_of_ble_eq_true rfl) (Nat.le_of_ble_eq_true rfl) dX11_byteOf_88 (⟨by have h := in_02 (of_decide_eq_true (bI_T c6)); unfold fByt; rw [if_pos h], rfl⟩)
    · refine x_aload_n C dX11_byteOf_16 0 rfl rfl ?_
      refine x_getiN C fl_X11_450 mO.1 rfl dX11_byteOf_17 ?_
      refine x_eqi (y := nI 0) f.2.2.2.1 ?_
      refine x_goto (tgt := 39) C dX11_byteOf_20 (by decide) ?_
      refine x_istore_n (lv' := [(3, .int (nI 0)), (0, .ref (A 63)), (1, .int w), (2, .int i)]) C dX11_byteOf_39 rfl (Nat.lt_of_lt_of_eq (by decide) hN.symm) rfl ?_
      refine x_iload_n C dX11_byteOf_40 3 rfl rfl ?_
      refine x_iconst (v := nI 0) C dX11_byteOf_41 (by decide +kernel) ?_
      refine x_iload_n C dX11_byteOf_42 0 rfl rfl ?_
      refine x_iconst (v := nI 1) C dX11_byteOf_43 (by decide +kernel) ?_
      refine x_isub C dX11_byteOf_44 ?_
      refine x_callS C (ok_X11_in i (nI 0) ((nI 0) - (nI 1))) ms_X11_in ml_X11_366 rfl rfl (Nat.le_of_ble_eq_true rfl) (hrm (rm := { frames := 0, cells := 0, slots := 0, locals := 0 }) hZ ⟨Nat.le_of_ble_eq_true rfl, Nat.le_of_ble_eq_true rfl⟩) (hcs hZ ⟨Nat.le_of_ble_eq_true rfl, Nat.le_of_ble_eq_true rfl⟩) dX11_byteOf_45 (fun v G' hp => ?_)
      obtain ⟨rfl, rfl⟩ := hp
      show hX z 0 0 (T, I, L, R, A) [(3, .int (nI 0)), (0, .ref (A 63)), (1, .int w), (2, .int i)] 48 [.int (bI (decide ((nI 0) ≤ i ∧ i ≤ ((nI 0) - (nI 1)))))]
      refine x_eqi (y := nI 0) (by rw [in_m1]; rfl) ?_
      refine x_if_neN (tgt := 55) C (by omega) dX11_byteOf_48 (by decide) (fun c48 => absurd c48 (by omega)) (fun c48 => ?_)
      refine x_iconst (v := (-1)) C dX11_byteOf_51 (by decide +kernel) ?_
      refine x_goto (tgt := 88) C dX11_byteOf_52 (by decide) ?_
      exact x_iret C E (Nat.le_of_ble_eq_true rfl) (Nat.le_of_ble_eq_true rfl) dX11_byteOf_88 (⟨by have h := in_02 (of_decide_eq_true (bI_T c6)); unfold fByt; rw [if_pos h], rfl⟩)
  · refine x_bipush (v := (-2)) C dX11_byteOf_9 (by decide +kernel) ?_
    exact x_iret C E (Nat.le_of_ble_eq_true rfl) (Nat.le_of_ble_eq_true rfl) dX11_byteOf_11 (⟨by have h := of_decide_eq_false (bI_F c6); unfold fByt; rw [if_neg (by rintro (e | e | e) <;> exact h (by rw [e]; decide +kernel))], rfl⟩)

set_option maxHeartbeats 4000000 in
set_option maxRecDepth 100000 in
theorem of_X11_count {l : Launch} {a0 : Nat} {D : va_G} {sa : Nat → Nat} {T : Nat → Option hKd} {I : Nat → Nat → Int32} {L : Nat → Nat → Int64} {R : Nat → Nat → Option Nat} {A : Nat → Nat} (mO : isM T R A a0) (f : frM I) (w : Int32) : hM l a0 D sa yX11_count cX11_count 2 (some .int) { frames := 0, cells := 0, slots := 0, locals := 0 } [.ref (A 63), .int w] (T, I, L, R, A) (fun r G' => r = some (.int (fCnt w)) ∧ G' = (T, I, L, R, A)) := by
  refine hM.of (by decide +kernel) (Nat.le_of_ble_eq_true rfl) ?_
  intro z hl h0 hD hS hN C E
  subst hl; subst h0; subst hD; subst hS
  have C : hC z RX11 cX11_count := C
  have hZ := E.2.2.2.1
  show hX z 0 0 (T, I, L, R, A) [(0, .ref (A 63)), (1, .int w)] 0 []
  refine x_iload_n C dX11_count_0 1 rfl rfl ?_
  by_cases s1_0 : w = nI 0
  · refine x_tableIn (off := 35) (tgt := 36) C dX11_count_1 (by rw [s1_0]; decide +kernel) (by rw [s1_0]; decide +kernel) (by rw [s1_0]; decide +kernel) (by decide) ?_
    refine x_aload_n C dX11_count_36 0 rfl rfl ?_
    refine x_getiN C fl_X11_363 mO.1 rfl dX11_count_37 ?_
    refine x_eqi (y := nI 0) f.1 ?_
    exact x_iret C E (Nat.le_of_ble_eq_true rfl) (Nat.le_of_ble_eq_true rfl) dX11_count_40 (⟨by unfold fCnt; rw [if_pos (Or.inl s1_0)], rfl⟩)
  by_cases s1_1 : w = nI 1
  · refine x_tableIn (off := 40) (tgt := 41) C dX11_count_1 (by rw [s1_1]; decide +kernel) (by rw [s1_1]; decide +kernel) (by rw [s1_1]; decide +kernel) (by decide) ?_
    refine x_aload_n C dX11_count_41 0 rfl rfl ?_
    refine x_getiN C fl_X11_370 mO.1 rfl dX11_count_42 ?_
    refine x_eqi (y := nI 0) f.2.1 ?_
    exact x_iret C E (Nat.le_of_ble_eq_true rfl) (Nat.le_of_ble_eq_true rfl) dX11_count_45 (⟨by unfold fCnt; rw [if_pos (Or.inr (Or.inl s1_1))], rfl⟩)
  by_cases s1_2 : w = nI 2
  · refine x_tableIn (off := 45) (tgt := 46) C dX11_count_1 (by rw [s1_2]; decide +kernel) (by rw [s1_2]; decide +kernel) (by rw [s1_2]; decide +kernel) (by decide) ?_
    refine x_aload_n C dX11_count_46 0 rfl rfl ?_
    refine x_getiN C fl_X11_418 mO.1 rfl dX11_count_47 ?_
    refine x_eqi (y := nI 0) f.2.2.1 ?_
    exact x_iret C E (Nat.le_of_ble_eq_true rfl) (Nat.le_of_ble_eq_true rfl) dX11_count_50 (⟨by unfold fCnt; rw [if_pos (Or.inr (Or.inr (Or.inl s1_2)))], rfl⟩)
  by_cases s1_3 : w = nI 3
  · refine x_tableIn (off := 50) (tgt := 51) C dX11_count_1 (by rw [s1_3]; decide +kernel) (by rw [s1_3]; decide +kernel) (by rw [s1_3]; decide +kernel) (by decide) ?_
    refine x_aload_n C dX11_count_51 0 rfl rfl ?_
    refine x_getiN C fl_X11_450 mO.1 rfl dX11_count_52 ?_
    refine x_eqi (y := nI 0) f.2.2.2.1 ?_
    exact x_iret C E (Nat.le_of_ble_eq_true rfl) (Nat.le_of_ble_eq_true rfl) dX11_count_55 (⟨by unfold fCnt; rw [if_pos (Or.inr (Or.inr (Or.inr (Or.inl s1_3))))], rfl⟩)
  by_cases s1_4 : w = nI 4
  · refine x_tableIn (off := 55) (tgt := 56) C dX11_count_1 (by rw [s1_4]; decide +kernel) (by rw [s1_4]; decide +kernel) (by rw [s1_4]; decide +kernel) (by decide) ?_
    refine x_aload_n C dX11_count_56 0 rfl rfl ?_
    refine x_getiN C fl_X11_457 mO.1 rfl dX11_count_57 ?_
    refine x_eqi (y := nI 0) f.2.2.2.2 ?_
    exact x_iret C E (Nat.le_of_ble_eq_true rfl) (Nat.le_of_ble_eq_true rfl) dX11_count_60 (⟨by unfold fCnt; rw [if_pos (Or.inr (Or.inr (Or.inr (Or.inr s1_4))))], rfl⟩)
  refine x_tableOut (tgt := 61) C dX11_count_1 (sw_out4 s1_0 s1_1 s1_2 s1_3 s1_4) (by decide) ?_
  refine x_bipush (v := (-2)) C dX11_count_61 (by decide +kernel) ?_
  exact x_iret C E (Nat.le_of_ble_eq_true rfl) (Nat.le_of_ble_eq_true rfl) dX11_count_63 (⟨by unfold fCnt; rw [if_neg (by simp [s1_0, s1_1, s1_2, s1_3, s1_4])], rfl⟩)

set_option maxHeartbeats 4000000 in
set_option maxRecDepth 100000 in
theorem of_X11_digest {l : Launch} {a0 : Nat} {D : va_G} {sa : Nat → Nat} {T : Nat → Option hKd} {I : Nat → Nat → Int32} {L : Nat → Nat → Int64} {R : Nat → Nat → Option Nat} {A : Nat → Nat} (mO : isM T R A a0) (f : frM I)  : hM l a0 D sa yX11_digest cX11_digest 5 (some .long) { frames := 0, cells := 0, slots := 0, locals := 0 } [.ref (A 63)] (T, I, L, R, A) (fun r G' => r = some (.long 67) ∧ G' = (T, I, L, R, A)) := by
  refine hM.of (by decide +kernel) (Nat.le_of_ble_eq_true rfl) ?_
  intro z hl h0 hD hS hN C E
  subst hl; subst h0; subst hD; subst hS
  have C : hC z RX11 cX11_digest := C
  have hZ := E.2.2.2.1
  show hX z 0 0 (T, I, L, R, A) [(0, .ref (A 63))] 0 []
  refine x_ldc2 C dX11_digest_0 kc_X11_475 ?_
  refine x_lstore_n (lv' := [(1, .long 67), (0, .ref (A 63))]) C dX11_digest_3 rfl (Nat.lt_of_lt_of_eq (by decide) hN.symm) rfl ?_
  refine x_iconst (v := nI 0) C dX11_digest_4 (by decide +kernel) ?_
  refine x_istore_n (lv' := [(3, .int (nI 0)), (1, .long 67), (0, .ref (A 63))]) C dX11_digest_5 rfl (Nat.lt_of_lt_of_eq (by decide) hN.symm) rfl ?_
  refine x_iload_n C dX11_digest_6 0 rfl rfl ?_
  refine x_aload_n C dX11_digest_7 2 rfl rfl ?_
  refine x_getiN C fl_X11_370 mO.1 rfl dX11_digest_8 ?_
  refine x_eqi (y := nI 0) f.2.1 ?_
  refine x_icmp_geN (tgt := 87) C (by omega) (by omega) dX11_digest_11 (by decide) (fun c11 => ?_) (fun c11 => absurd c11 (by omega))
  refine x_iconst (v := nI 0) C dX11_digest_87 (by decide +kernel) ?_
  refine x_istore_n (lv' := [(3, .int (nI 0)), (1, .long 67), (0, .ref (A 63))]) C dX11_digest_88 rfl (Nat.lt_of_lt_of_eq (by decide) hN.symm) rfl ?_
  refine x_iload_n C dX11_digest_89 0 rfl rfl ?_
  refine x_aload_n C dX11_digest_90 2 rfl rfl ?_
  refine x_getiN C fl_X11_450 mO.1 rfl dX11_digest_91 ?_
  refine x_eqi (y := nI 0) f.2.2.2.1 ?_
  refine x_icmp_geN (tgt := 117) C (by omega) (by omega) dX11_digest_94 (by decide) (fun c94 => ?_) (fun c94 => absurd c94 (by omega))
  refine x_iconst (v := nI 0) C dX11_digest_117 (by decide +kernel) ?_
  refine x_istore_n (lv' := [(3, .int (nI 0)), (1, .long 67), (0, .ref (A 63))]) C dX11_digest_118 rfl (Nat.lt_of_lt_of_eq (by decide) hN.symm) rfl ?_
  refine x_iload_n C dX11_digest_119 0 rfl rfl ?_
  refine x_aload_n C dX11_digest_120 2 rfl rfl ?_
  refine x_getiN C fl_X11_457 mO.1 rfl dX11_digest_121 ?_
  refine x_eqi (y := nI 0) f.2.2.2.2 ?_
  refine x_icmp_geN (tgt := 147) C (by omega) (by omega) dX11_digest_124 (by decide) (fun c124 => ?_) (fun c124 => absurd c124 (by omega))
  refine x_lload_n C dX11_digest_147 1 rfl rfl ?_
  exact x_lret C E (Nat.le_of_ble_eq_true rfl) (Nat.le_of_ble_eq_true rfl) dX11_digest_148 (⟨rfl, rfl⟩)

set_option maxHeartbeats 4000000 in
set_option maxRecDepth 100000 in
theorem of_X11_pattern {l : Launch} {a0 : Nat} {D : va_G} {sa : Nat → Nat} {T : Nat → Option hKd} {I : Nat → Nat → Int32} {L : Nat → Nat → Int64} {R : Nat → Nat → Option Nat} {A : Nat → Nat} (mO : isM T R A a0) (f : frM I) (u v : Int32) (hu : u = 0 ∨ u = 1) (hv : v = 0 ∨ v = 1) : hM l a0 D sa yX11_pattern cX11_pattern 3 (some .int) { frames := 0, cells := 0, slots := 0, locals := 0 } [.ref (A 63), .int u, .int v] (T, I, L, R, A) (fun r _ => r = some (.int (nI 0))) := by
  refine hM.of (by decide +kernel) (Nat.le_of_ble_eq_true rfl) ?_
  intro z hl h0 hD hS hN C E
  subst hl; subst h0; subst hD; subst hS
  have C : hC z RX11 cX11_pattern := C
  have hZ := E.2.2.2.1
  show hX z 0 0 (T, I, L, R, A) [(0, .ref (A 63)), (1, .int u), (2, .int v)] 0 []
  refine x_aload_n C dX11_pattern_0 0 rfl rfl ?_
  refine x_getiN C fl_X11_363 mO.1 rfl dX11_pattern_1 ?_
  refine x_eqi (y := nI 0) (by exact f.1) ?_
  refine x_bipush (v := nI 8) C dX11_pattern_4 (by decide +kernel) ?_
  refine x_icmp_neN (tgt := 12) C (by omega) (by omega) dX11_pattern_6 (by decide) (fun c6 => ?_) (fun c6 => absurd c6 (by omega))
  refine x_aload_n C dX11_pattern_12 0 rfl rfl ?_
  refine x_getrN C fl_X11_152 mO.1 rfl (mO.2.2 25 _ rfl).1 dX11_pattern_13 ?_
  refine x_iconst (v := nI 2) C dX11_pattern_16 (by decide +kernel) ?_
  refine x_aload_n C dX11_pattern_17 0 rfl rfl ?_
  refine x_getiN C fl_X11_363 mO.1 rfl dX11_pattern_18 ?_
  refine x_eqi (y := nI 0) (by exact f.1) ?_
  refine x_imulN C dX11_pattern_21 ?_
  refine x_iload_n C dX11_pattern_22 1 rfl rfl ?_
  refine x_zastN C (mO.2.2 25 _ rfl).2.1 (mO.2.2 25 _ rfl).2.2 (by omega) (by omega) (by first | exact Or.inl rfl | exact Or.inr rfl | assumption) dX11_pattern_23 (fun I1 eI1 => ?_)
  refine x_aload_n C dX11_pattern_24 0 rfl rfl ?_
  refine x_getrN C fl_X11_152 mO.1 rfl (mO.2.2 25 _ rfl).1 dX11_pattern_25 ?_
  refine x_iconst (v := nI 2) C dX11_pattern_28 (by decide +kernel) ?_
  refine x_aload_n C dX11_pattern_29 0 rfl rfl ?_
  refine x_getiN C fl_X11_363 mO.1 rfl dX11_pattern_30 ?_
  refine x_eqi (y := nI 0) (by rw [eI1, va_up_other _ _ (by decide)]; exact f.1) ?_
  refine x_imulN C dX11_pattern_33 ?_
  refine x_iconst (v := nI 1) C dX11_pattern_34 (by decide +kernel) ?_
  refine x_iaddN C dX11_pattern_35 ?_
  refine x_iload_n C dX11_pattern_36 2 rfl rfl ?_
  refine x_zastN C (mO.2.2 25 _ rfl).2.1 (mO.2.2 25 _ rfl).2.2 (by omega) (by omega) (by first | exact Or.inl rfl | exact Or.inr rfl | assumption) dX11_pattern_37 (fun I2 eI2 => ?_)
  refine x_aload_n C dX11_pattern_38 0 rfl rfl ?_
  refine x_getrN C fl_X11_156 mO.1 rfl (mO.2.2 26 _ rfl).1 dX11_pattern_39 ?_
  refine x_aload_n C dX11_pattern_42 0 rfl rfl ?_
  refine x_getiN C fl_X11_363 mO.1 rfl dX11_pattern_43 ?_
  refine x_eqi (y := nI 0) (by rw [eI2, va_up_other _ _ (by decide)]; rw [eI1, va_up_other _ _ (by decide)]; exact f.1) ?_
  refine x_iconst (v := nI 0) C dX11_pattern_46 (by decide +kernel) ?_
  refine x_iastN C (mO.2.2 26 _ rfl).2.1 (mO.2.2 26 _ rfl).2.2 (by omega) (by omega) dX11_pattern_47 (fun I3 eI3 => ?_)
  refine x_aload_n C dX11_pattern_48 0 rfl rfl ?_
  refine x_dup C dX11_pattern_49 rfl ?_
  refine x_getiN C fl_X11_363 mO.1 rfl dX11_pattern_50 ?_
  refine x_eqi (y := nI 0) (by rw [eI3, va_up_other _ _ (by decide)]; rw [eI2, va_up_other _ _ (by decide)]; rw [eI1, va_up_other _ _ (by decide)]; exact f.1) ?_
  refine x_iconst (v := nI 1) C dX11_pattern_53 (by decide +kernel) ?_
  refine x_iaddN C dX11_pattern_54 ?_
  refine x_putiN C fl_X11_363 mO.1 mO.2.1 rfl dX11_pattern_55 (fun I4 eI4 => ?_)
  refine x_aload_n C dX11_pattern_58 0 rfl rfl ?_
  refine x_getiN C fl_X11_363 mO.1 rfl dX11_pattern_59 ?_
  refine x_eqi (y := nI 1) (by rw [eI4, va_up_same]; simp [upd]) ?_
  refine x_iconst (v := nI 1) C dX11_pattern_62 (by decide +kernel) ?_
  refine x_isubN C (by omega) dX11_pattern_63 ?_
  exact x_iret C E (Nat.le_of_ble_eq_true rfl) (Nat.le_of_ble_eq_true rfl) dX11_pattern_64 (rfl)

theorem fm_s {I J : Nat → Nat → Int32} {w : Int64} {vi : Int32} {t k c : Nat} (hJb : ∀ j, J 55 j = if t ≤ j ∧ j < t + c then fedM w (nI (k - (j - t)) - nI 1) else I 55 j) (hvi : vi = nI (k - c) - nI 1) (hc : c < k) (j : Nat) : upd (J 55) (t + c) (fedM w vi) j = if t ≤ j ∧ j < t + (c + 1) then fedM w (nI (k - (j - t)) - nI 1) else I 55 j := by
  unfold upd
  by_cases h : j = t + c
  · rw [if_pos h, if_pos (by omega), h, show t + c - t = c by omega, hvi]
  · rw [if_neg h, hJb]
    by_cases h2 : t ≤ j ∧ j < t + c
    · rw [if_pos h2, if_pos (by omega)]
    · rw [if_neg h2, if_neg (by omega)]
set_option maxHeartbeats 4000000 in
set_option maxRecDepth 100000 in
theorem ok_X11_feed {l : Launch} {a0 : Nat} {D : va_G} {sa : Nat → Nat} {T : Nat → Option hKd} {I : Nat → Nat → Int32} {L : Nat → Nat → Int64} {R : Nat → Nat → Option Nat} {A : Nat → Nat} (mO : isM T R A a0) (t : Nat) (ht : t ≤ 64) (hs : I 63 56 = nI t) (w : Int64) (n : Int32) : hM l a0 D sa yX11_feed cX11_feed 5 (some .int) { frames := 1, cells := 0, slots := 0, locals := 22 } [.ref (A 63), .long w, .int n] (T, I, L, R, A) (fun r G' => ((n < nI 1 ∨ nI 8 < n) ∧ r = some (.int (-2)) ∧ G' = (T, I, L, R, A)) ∨ ∃ k, 1 ≤ k ∧ k ≤ 8 ∧ n = nI k ∧ ((64 < t + k ∧ r = some (.int (-4)) ∧ G' = (T, I, L, R, A)) ∨ (t + k ≤ 64 ∧ r = some (.int (nI (t + k))) ∧ ∃ I', G' = (T, I', L, R, A) ∧ I' 63 56 = nI (t + k) ∧ (∀ j, j ≠ 56 → I' 63 j = I 63 j) ∧ (∀ j, I' 55 j = if t ≤ j ∧ j < t + k then fedM w (nI (k - (j - t)) - nI 1) else I 55 j) ∧ fx [55, 63] I I'))) := by
  refine hM.of (by decide +kernel) (Nat.le_of_ble_eq_true rfl) ?_
  intro z hl h0 hD hS hN C E
  subst hl; subst h0; subst hD; subst hS
  have C : hC z RX11 cX11_feed := C
  have hZ := E.2.2.2.1
  show hX z 0 0 (T, I, L, R, A) [(0, .ref (A 63)), (1, .long w), (3, .int n)] 0 []
  refine x_iload_n C dX11_feed_0 2 rfl rfl ?_
  refine x_iconst (v := nI 1) C dX11_feed_1 (by decide +kernel) ?_
  refine x_bipush (v := nI 8) C dX11_feed_2 (by decide +kernel) ?_
  refine x_callS C (ok_X11_in n (nI 1) (nI 8)) ms_X11_in ml_X11_366 rfl rfl (Nat.le_of_ble_eq_true rfl) (hrm (rm := { frames := 0, cells := 0, slots := 0, locals := 0 }) hZ ⟨Nat.le_of_ble_eq_true rfl, Nat.le_of_ble_eq_true rfl⟩) (hcs hZ ⟨Nat.le_of_ble_eq_true rfl, Nat.le_of_ble_eq_true rfl⟩) dX11_feed_4 (fun v G' hp => ?_)
  obtain ⟨rfl, rfl⟩ := hp
  show hX z 0 0 (T, I, L, R, A) [(0, .ref (A 63)), (1, .long w), (3, .int n)] 7 [.int (bI (decide ((nI 1) ≤ n ∧ n ≤ (nI 8))))]
  refine x_if_ne (tgt := 13) C dX11_feed_7 (by decide) (fun c7 => ?_) (fun c7 => ?_)
  · obtain ⟨k, hk1, hk8, rfl⟩ := in_18 (of_decide_eq_true (bI_T c7))
    refine x_aload_n C dX11_feed_13 0 rfl rfl ?_
    refine x_getiN C fl_X11_418 mO.1 rfl dX11_feed_14 ?_
    refine x_eqi (y := nI t) hs ?_
    refine x_iload_n C dX11_feed_17 2 rfl rfl ?_
    refine x_iaddN C dX11_feed_18 ?_
    refine x_bipush (v := nI 64) C dX11_feed_19 (by decide +kernel) ?_
    refine x_icmp_leN (tgt := 27) C (by omega) (by omega) dX11_feed_21 (by decide) (fun c21 => ?_) (fun c21 => ?_)
    · refine x_iload_n C dX11_feed_27 2 rfl rfl ?_
      refine x_iconst (v := nI 1) C dX11_feed_28 (by decide +kernel) ?_
      refine x_isubN C (by omega) dX11_feed_29 ?_
      refine x_istore (lv' := [(4, .int (nI (k - 1))), (0, .ref (A 63)), (1, .long w), (3, .int (nI k))]) C dX11_feed_30 (Nat.lt_of_lt_of_eq (by decide) hN.symm) rfl ?_
      have L32 : ∀ (fuel_ : Nat) (c : Nat) (vi : Int32) (J : Nat → Nat → Int32), k - c < fuel_ → (c ≤ k) → (vi = nI (k - c) - nI 1) → (J 63 56 = nI (t + c)) → (∀ j, j ≠ 56 → J 63 j = I 63 j) → (∀ j, J 55 j = if t ≤ j ∧ j < t + c then fedM w (nI (k - (j - t)) - nI 1) else I 55 j) → (fx [55, 63] I J) → hX z 0 0 (T, J, L, R, A) [(4, .int vi), (0, .ref (A 63)), (1, .long w), (3, .int (nI k))] 32 [] := by
        intro fuel_
        induction fuel_ with
        | zero => intro c vi J hmz; exact absurd hmz (Nat.not_lt_zero _)
        | succ fuel_ ih32 =>
          intro c vi J hmz hc hvi hJs hJo hJb hJf
          refine x_iload C dX11_feed_32 0 rfl ?_
          refine x_if_lt (tgt := 74) C dX11_feed_34 (by decide) (fun c34 => ?_) (fun c34 => ?_)
          · refine x_aload_n C dX11_feed_74 1 rfl rfl ?_
            refine x_getiN C fl_X11_418 mO.1 rfl dX11_feed_75 ?_
            refine x_eqi (y := nI (t + c)) hJs ?_
            exact x_iret C E (Nat.le_of_ble_eq_true rfl) (Nat.le_of_ble_eq_true rfl) dX11_feed_78 (Or.inr ⟨k, hk1, hk8, rfl, Or.inr ⟨by omega, by rw [fd_T hvi hk8 hc c34], J, rfl, by rw [hJs, fd_T hvi hk8 hc c34], hJo, fun j => by rw [hJb j, fd_T hvi hk8 hc c34], hJf⟩⟩)
          · refine x_aload_n C dX11_feed_37 1 rfl rfl ?_
            refine x_getrN C fl_X11_240 mO.1 rfl (mO.2.2 55 _ rfl).1 dX11_feed_38 ?_
            refine x_aload_n C dX11_feed_41 1 rfl rfl ?_
            refine x_getiN C fl_X11_418 mO.1 rfl dX11_feed_42 ?_
            refine x_eqi (y := nI (t + c)) hJs ?_
            refine x_lload_n C dX11_feed_45 2 rfl rfl ?_
            refine x_bipush (v := nI 8) C dX11_feed_46 (by decide +kernel) ?_
            refine x_iload C dX11_feed_48 0 rfl ?_
            refine x_imul C dX11_feed_50 ?_
            refine x_lshr C dX11_feed_51 ?_
            refine x_l2i C dX11_feed_52 ?_
            refine x_sipush (v := nI 255) C dX11_feed_53 (by decide +kernel) ?_
            refine x_iand C dX11_feed_56 ?_
            refine x_iastN C (mO.2.2 55 _ rfl).2.1 (mO.2.2 55 _ rfl).2.2 (by have := fd_F hvi hc c34; omega) (by omega) dX11_feed_57 (fun I1 eI1 => ?_)
            refine x_aload_n C dX11_feed_58 1 rfl rfl ?_
            refine x_dup C dX11_feed_59 rfl ?_
            refine x_getiN C fl_X11_418 mO.1 rfl dX11_feed_60 ?_
            refine x_eqi (y := nI (t + c)) (by rw [eI1, va_up_other _ _ (by decide)]; exact hJs) ?_
            refine x_iconst (v := nI 1) C dX11_feed_63 (by decide +kernel) ?_
            refine x_iaddN C dX11_feed_64 ?_
            refine x_putiN C fl_X11_418 mO.1 mO.2.1 rfl dX11_feed_65 (fun I2 eI2 => ?_)
            refine x_iinc (v := vi + (-1)) (lv' := [(4, .int (vi + (-1))), (0, .ref (A 63)), (1, .long w), (3, .int (nI k))]) C dX11_feed_68 0 rfl (by rfl) (Nat.lt_of_lt_of_eq (by decide) hN.symm) rfl ?_
            refine x_goto (tgt := 32) C dX11_feed_71 (by decide) ?_
            refine x_sub (lv' := _) [0, 1, 2, 3] rfl ?_
            exact ih32 (c + 1) (vi + (-1)) I2 (by have := fd_F hvi hc c34; omega) (fd_F hvi hc c34) (by have h1 := fd_F hvi hc c34; rw [hvi, show k - c = k - (c + 1) + 1 by omega, pk_sub (by omega), Nat.add_sub_cancel]; exact fd_n _) (by rw [eI2, va_up_same]; simp [upd]; rfl) (fun j hj => by rw [eI2, va_up_same]; simp only [upd, hj, if_false]; rw [eI1, va_up_other _ _ (by decide)]; exact hJo j hj) (fun j => by have h1 := fd_F hvi hc c34; rw [eI2, va_up_other _ _ (by decide), eI1, va_up_same]; exact fm_s hJb hvi h1 j) (by rw [eI2, eI1]; exact (hJf.up (by simp)).up (by simp))
      refine x_sub (lv' := _) [0, 1, 2, 3] rfl ?_
      exact L32 _ 0 (nI (k - 1)) I (Nat.lt_succ_self _) (by omega) (by rw [Nat.sub_zero, pk_sub hk1]) hs (fun _ _ => rfl) (fun j => by rw [if_neg (by omega)]) fx.rf
    · refine x_bipush (v := (-4)) C dX11_feed_24 (by decide +kernel) ?_
      exact x_iret C E (Nat.le_of_ble_eq_true rfl) (Nat.le_of_ble_eq_true rfl) dX11_feed_26 (Or.inr ⟨k, hk1, hk8, rfl, Or.inl ⟨by omega, rfl, rfl⟩⟩)
  · refine x_bipush (v := (-2)) C dX11_feed_10 (by decide +kernel) ?_
    exact x_iret C E (Nat.le_of_ble_eq_true rfl) (Nat.le_of_ble_eq_true rfl) dX11_feed_12 (Or.inl ⟨by have h := of_decide_eq_false (bI_F c7); rcases Int32.lt_or_le n (nI 1) with g | g; exact Or.inl g; exact Or.inr (Int32.not_le.mp fun q => h ⟨g, q⟩), rfl, rfl⟩)

theorem key_hi {i : Int32} (g : 0 ≤ i) (h : ¬ (nI 0 ≤ i ∧ i ≤ nI 31)) : nI 32 ≤ i := by
  have h1 : ¬ i ≤ nI 31 := fun q => h ⟨by rw [nI_0]; exact g, q⟩
  have h2 := Int32.lt_iff_toInt_lt.mp (Int32.not_le.mp h1)
  apply Int32.le_iff_toInt_le.mpr
  rw [nI_tI (by decide)] at h2 ⊢
  omega
theorem key_at {I J K : Nat → Nat → Int32} {v jv : Int32} {k : Nat} (hk : k ≤ 31) (k1 : K 61 = (fun t => if 32 ≤ t ∧ t < 32 + 32 then pubF (fun j => J 61 (0 + j)) (t - 32) else J 61 t)) (j1 : J 61 = (fun j => if 0 ≤ j ∧ j < 0 + 32 then secF v jv (j - 0) else I 61 j)) : K 61 (32 + k) = pubF (secF v jv) k := by
  rw [k1]
  simp only [show 32 ≤ 32 + k ∧ 32 + k < 32 + 32 by omega, and_self, if_true, show 32 + k - 32 = k by omega]
  refine pub_cong (fun j hj => ?_) k
  rw [j1]
  simp [hj]
set_option maxHeartbeats 4000000 in
set_option maxRecDepth 100000 in
theorem ok_X11_key {l : Launch} {a0 : Nat} {D : va_G} {sa : Nat → Nat} {T : Nat → Option hKd} {I : Nat → Nat → Int32} {L : Nat → Nat → Int64} {R : Nat → Nat → Option Nat} {A : Nat → Nat} (mO : isM T R A a0) (h4 : ∀ t, t < 8 → I 4 t = fSha t) (h5 : ∀ t, t < 64 → I 5 t = kSha t) (h13 : ∀ j, 0 < j → j < 32 → I 13 j = 0) (v jv i : Int32) : hM l a0 D sa yX11_key cX11_key 4 (some .int) { frames := 5, cells := 0, slots := 0, locals := 122 } [.ref (A 63), .int v, .int jv, .int i] (T, I, L, R, A) (fun x G' => ((i < 0 ∨ nI 32 ≤ i) ∧ x = some (.int (-2)) ∧ G' = (T, I, L, R, A)) ∨ ∃ k, k < 32 ∧ i = nI k ∧ x = some (.int (pubF (secF v jv) k)) ∧ ∃ I' L', G' = (T, I', L', R, A) ∧ (∀ j, 0 < j → j < 32 → I' 13 j = 0) ∧ (∀ q, q ∉ [0, 2, 3, 12, 13, 61] → q ≠ 63 → I' q = I q) ∧ ∀ j, j ≠ 1 → I' 63 j = I 63 j) := by
  refine hM.of (by decide +kernel) (Nat.le_of_ble_eq_true rfl) ?_
  intro z hl h0 hD hS hN C E
  subst hl; subst h0; subst hD; subst hS
  have C : hC z RX11 cX11_key := C
  have hZ := E.2.2.2.1
  show hX z 0 0 (T, I, L, R, A) [(0, .ref (A 63)), (1, .int v), (2, .int jv), (3, .int i)] 0 []
  refine x_iload_n C dX11_key_0 3 rfl rfl ?_
  refine x_iconst (v := nI 0) C dX11_key_1 (by decide +kernel) ?_
  refine x_bipush (v := nI 31) C dX11_key_2 (by decide +kernel) ?_
  refine x_callS C (ok_X11_in i (nI 0) (nI 31)) ms_X11_in ml_X11_366 rfl rfl (Nat.le_of_ble_eq_true rfl) (hrm (rm := { frames := 0, cells := 0, slots := 0, locals := 0 }) hZ ⟨Nat.le_of_ble_eq_true rfl, Nat.le_of_ble_eq_true rfl⟩) (hcs hZ ⟨Nat.le_of_ble_eq_true rfl, Nat.le_of_ble_eq_true rfl⟩) dX11_key_4 (fun v G' hp => ?_)
  obtain ⟨rfl, rfl⟩ := hp
  show hX z 0 0 (T, I, L, R, A) [(0, .ref (A 63)), (1, .int v), (2, .int jv), (3, .int i)] 7 [.int (bI (decide ((nI 0) ≤ i ∧ i ≤ (nI 31))))]
  refine x_if_ne (tgt := 13) C dX11_key_7 (by decide) (fun c7 => ?_) (fun c7 => ?_)
  · obtain ⟨k, hk, rfl⟩ := in_of (of_decide_eq_true (bI_T c7)) (by decide)
    refine x_aload_n C dX11_key_13 0 rfl rfl ?_
    refine x_iload_n C dX11_key_14 1 rfl rfl ?_
    refine x_iload_n C dX11_key_15 2 rfl rfl ?_
    refine x_aload_n C dX11_key_16 0 rfl rfl ?_
    refine x_getrN C fl_X11_249 mO.1 rfl (mO.2.2 61 _ rfl).1 dX11_key_17 ?_
    refine x_iconst (v := nI 0) C dX11_key_20 (by decide +kernel) ?_
    refine x_callV C (ok_X11_secret mO v jv 61 400 0 h4 h5 (mO.2.2 61 _ rfl).2.1 (by decide) (mO.2.2 61 _ rfl).2.2 (by decide) (by decide)) mv_X11_secret ml_X11_394 mO.1 rfl rfl rfl (Nat.le_of_ble_eq_true rfl) (hrm (rm := { frames := 0, cells := 0, slots := 0, locals := 0 }) hZ ⟨Nat.le_of_ble_eq_true rfl, Nat.le_of_ble_eq_true rfl⟩) (hcs hZ ⟨Nat.le_of_ble_eq_true rfl, Nat.le_of_ble_eq_true rfl⟩) dX11_key_21 (fun v G' hp => ?_)
    obtain ⟨rfl, J, rfl, j1, j2⟩ := hp
    have z13 : ∀ j, 0 < j → j < 32 → J 13 j = 0 := fun j h1 h2 => by rw [j2.1 13 (by decide) (by decide)]; exact h13 j h1 h2
    show hX z 0 0 (T, J, L, R, A) [(0, .ref (A 63)), (1, .int v), (2, .int jv), (3, .int (nI k))] 24 []
    refine x_aload_n C dX11_key_24 0 rfl rfl ?_
    refine x_aload_n C dX11_key_25 0 rfl rfl ?_
    refine x_getrN C fl_X11_249 mO.1 rfl (mO.2.2 61 _ rfl).1 dX11_key_26 ?_
    refine x_iconst (v := nI 0) C dX11_key_29 (by decide +kernel) ?_
    refine x_aload_n C dX11_key_30 0 rfl rfl ?_
    refine x_getrN C fl_X11_249 mO.1 rfl (mO.2.2 61 _ rfl).1 dX11_key_31 ?_
    refine x_bipush (v := nI 32) C dX11_key_34 (by decide +kernel) ?_
    refine x_callV C (ok_X11_publicOf mO 61 400 0 61 400 32 (mO.2.2 61 _ rfl).2.1 (by decide) (by decide) (by decide) (by decide) (mO.2.2 61 _ rfl).2.1 (mO.2.2 61 _ rfl).2.2 (by decide) (by decide) (by decide) z13) mv_X11_publicOf ml_X11_398 mO.1 rfl rfl rfl (Nat.le_of_ble_eq_true rfl) (hrm (rm := { frames := 0, cells := 0, slots := 0, locals := 0 }) hZ ⟨Nat.le_of_ble_eq_true rfl, Nat.le_of_ble_eq_true rfl⟩) (hcs hZ ⟨Nat.le_of_ble_eq_true rfl, Nat.le_of_ble_eq_true rfl⟩) dX11_key_36 (fun v G' hp => ?_)
    obtain ⟨rfl, K, L1, rfl, k1, k2, k3⟩ := hp
    show hX z 0 0 (T, K, L1, R, A) [(0, .ref (A 63)), (1, .int v), (2, .int jv), (3, .int (nI k))] 39 []
    refine x_aload_n C dX11_key_39 0 rfl rfl ?_
    refine x_getrN C fl_X11_249 mO.1 rfl (mO.2.2 61 _ rfl).1 dX11_key_40 ?_
    refine x_bipush (v := nI 32) C dX11_key_43 (by decide +kernel) ?_
    refine x_iload_n C dX11_key_45 3 rfl rfl ?_
    refine x_iaddN C dX11_key_46 ?_
    refine x_ialdN C (mO.2.2 61 _ rfl).2.1 (by omega) (by omega) dX11_key_47 ?_
    refine x_eqi (y := pubF (secF v jv) k) (key_at hk k1 j1) ?_
    exact x_iret C E (Nat.le_of_ble_eq_true rfl) (Nat.le_of_ble_eq_true rfl) dX11_key_48 (Or.inr ⟨k, by omega, rfl, rfl, K, L1, rfl, k2, fun q h1 h2 => (k3 q (by simp at h1 ⊢; omega)).trans (j2.1 q (by simp at h1 ⊢; omega) h2), fun j hj => by rw [k3 63 (by decide)]; exact j2.2 j hj⟩)
  · refine x_bipush (v := (-2)) C dX11_key_10 (by decide +kernel) ?_
    exact x_iret C E (Nat.le_of_ble_eq_true rfl) (Nat.le_of_ble_eq_true rfl) dX11_key_12 (Or.inl ⟨by have h := of_decide_eq_false (bI_F c7); rcases Int32.lt_or_le i 0 with g | g; exact Or.inl g; exact Or.inr (key_hi g h), rfl, rfl⟩)

