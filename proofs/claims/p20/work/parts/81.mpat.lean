/-! ===== the model: patterns ===== -/
theorem in_bad {p : Int32} {n : Nat} (hn : n ≤ 8) (hb : p < 0 ∨ nI n ≤ p) : decide (nI 0 ≤ p ∧ p ≤ nI n - nI 1) = false := by
  apply decide_eq_false
  rintro ⟨h1, h2⟩
  rcases hb with h | h
  · exact Int32.not_le.mpr h (by rw [← nI_0]; exact h1)
  · have h3 := Int32.le_trans h h2
    rcases Nat.eq_zero_or_pos n with e | e
    · subst e; exact absurd h3 (by decide +kernel)
    · rw [pk_sub (show 1 ≤ n by omega)] at h3
      have := (nI_leI (by omega) (by omega)).mp h3
      omega
theorem in_ok {k n : Nat} (hn : n ≤ 8) (hk : k < n) : decide (nI 0 ≤ nI k ∧ nI k ≤ nI n - nI 1) = true := by
  apply decide_eq_true
  rw [pk_sub (show 1 ≤ n by omega)]
  exact ⟨(nI_leI (by omega) (by omega)).mpr (by omega), (nI_leI (by omega) (by omega)).mpr (by omega)⟩
set_option maxHeartbeats 4000000 in
set_option maxRecDepth 100000 in
theorem bd_X11_isPattern {l : Launch} {a0 : Nat} {D : va_G} {sa : Nat → Nat} {T : Nat → Option hKd} {I : Nat → Nat → Int32} {L : Nat → Nat → Int64} {R : Nat → Nat → Option Nat} {A : Nat → Nat} (mO : isM T R A a0) (np : Nat) (hnp : I 63 24 = nI np) (hn8 : np ≤ 8) (p : Int32) (hb : p < 0 ∨ nI np ≤ p)  : hM l a0 D sa yX11_isPattern cX11_isPattern 2 (some .boolean) { frames := 1, cells := 0, slots := 0, locals := 22 } [.ref (A 63), .int p] (T, I, L, R, A) (fun r G' => r = some (.int (nI 0)) ∧ G' = (T, I, L, R, A)) := by
  refine hM.of (by decide +kernel) (Nat.le_of_ble_eq_true rfl) ?_
  intro z hl h0 hD hS hN C E
  subst hl; subst h0; subst hD; subst hS
  have C : hC z RX11 cX11_isPattern := C
  have hZ := E.2.2.2.1
  show hX z 0 0 (T, I, L, R, A) [(0, .ref (A 63)), (1, .int p)] 0 []
  refine x_iload_n C dX11_isPattern_0 1 rfl rfl ?_
  refine x_iconst (v := nI 0) C dX11_isPattern_1 (by decide +kernel) ?_
  refine x_aload_n C dX11_isPattern_2 0 rfl rfl ?_
  refine x_getiN C fl_X11_363 mO.1 rfl dX11_isPattern_3 ?_
  refine x_eqi (y := nI np) hnp ?_
  refine x_iconst (v := nI 1) C dX11_isPattern_6 (by decide +kernel) ?_
  refine x_isub C dX11_isPattern_7 ?_
  refine x_callS C (ok_X11_in p (nI 0) ((nI np) - (nI 1))) ms_X11_in ml_X11_366 rfl rfl (Nat.le_of_ble_eq_true rfl) (hrm (rm := { frames := 0, cells := 0, slots := 0, locals := 0 }) hZ ⟨Nat.le_of_ble_eq_true rfl, Nat.le_of_ble_eq_true rfl⟩) (hcs hZ ⟨Nat.le_of_ble_eq_true rfl, Nat.le_of_ble_eq_true rfl⟩) dX11_isPattern_8 (fun v G' hp => ?_)
  obtain ⟨rfl, rfl⟩ := hp
  show hX z 0 0 (T, I, L, R, A) [(0, .ref (A 63)), (1, .int p)] 11 [.int (bI (decide ((nI 0) ≤ p ∧ p ≤ ((nI np) - (nI 1)))))]
  refine x_eqi (y := nI 0) (by rw [in_bad (by omega) hb]; rfl) ?_
  exact x_zret C E (by first | exact Or.inl rfl | exact Or.inr rfl | assumption) (Nat.le_of_ble_eq_true rfl) (Nat.le_of_ble_eq_true rfl) dX11_isPattern_11 (⟨rfl, rfl⟩)

set_option maxHeartbeats 4000000 in
set_option maxRecDepth 100000 in
theorem ok_X11_isPattern {l : Launch} {a0 : Nat} {D : va_G} {sa : Nat → Nat} {T : Nat → Option hKd} {I : Nat → Nat → Int32} {L : Nat → Nat → Int64} {R : Nat → Nat → Option Nat} {A : Nat → Nat} (mO : isM T R A a0) (np : Nat) (hnp : I 63 24 = nI np) (hn8 : np ≤ 8) (k : Nat) (hk : k < np) : hM l a0 D sa yX11_isPattern cX11_isPattern 2 (some .boolean) { frames := 1, cells := 0, slots := 0, locals := 22 } [.ref (A 63), .int (nI k)] (T, I, L, R, A) (fun r G' => r = some (.int (nI 1)) ∧ G' = (T, I, L, R, A)) := by
  refine hM.of (by decide +kernel) (Nat.le_of_ble_eq_true rfl) ?_
  intro z hl h0 hD hS hN C E
  subst hl; subst h0; subst hD; subst hS
  have C : hC z RX11 cX11_isPattern := C
  have hZ := E.2.2.2.1
  show hX z 0 0 (T, I, L, R, A) [(0, .ref (A 63)), (1, .int (nI k))] 0 []
  refine x_iload_n C dX11_isPattern_0 1 rfl rfl ?_
  refine x_iconst (v := nI 0) C dX11_isPattern_1 (by decide +kernel) ?_
  refine x_aload_n C dX11_isPattern_2 0 rfl rfl ?_
  refine x_getiN C fl_X11_363 mO.1 rfl dX11_isPattern_3 ?_
  refine x_eqi (y := nI np) hnp ?_
  refine x_iconst (v := nI 1) C dX11_isPattern_6 (by decide +kernel) ?_
  refine x_isub C dX11_isPattern_7 ?_
  refine x_callS C (ok_X11_in (nI k) (nI 0) ((nI np) - (nI 1))) ms_X11_in ml_X11_366 rfl rfl (Nat.le_of_ble_eq_true rfl) (hrm (rm := { frames := 0, cells := 0, slots := 0, locals := 0 }) hZ ⟨Nat.le_of_ble_eq_true rfl, Nat.le_of_ble_eq_true rfl⟩) (hcs hZ ⟨Nat.le_of_ble_eq_true rfl, Nat.le_of_ble_eq_true rfl⟩) dX11_isPattern_8 (fun v G' hp => ?_)
  obtain ⟨rfl, rfl⟩ := hp
  show hX z 0 0 (T, I, L, R, A) [(0, .ref (A 63)), (1, .int (nI k))] 11 [.int (bI (decide ((nI 0) ≤ (nI k) ∧ (nI k) ≤ ((nI np) - (nI 1)))))]
  refine x_eqi (y := nI 1) (by rw [in_ok (by omega) hk]; rfl) ?_
  exact x_zret C E (by first | exact Or.inl rfl | exact Or.inr rfl | assumption) (Nat.le_of_ble_eq_true rfl) (Nat.le_of_ble_eq_true rfl) dX11_isPattern_11 (⟨rfl, rfl⟩)

set_option maxHeartbeats 4000000 in
set_option maxRecDepth 100000 in
theorem bd_X11_isSide {l : Launch} {a0 : Nat} {D : va_G} {sa : Nat → Nat} {T : Nat → Option hKd} {I : Nat → Nat → Int32} {L : Nat → Nat → Int64} {R : Nat → Nat → Option Nat} {A : Nat → Nat} (mO : isM T R A a0) (ns : Nat) (hns : I 63 33 = nI ns) (hn4 : ns ≤ 4) (p : Int32) (hb : p < 0 ∨ nI ns ≤ p)  : hM l a0 D sa yX11_isSide cX11_isSide 2 (some .boolean) { frames := 1, cells := 0, slots := 0, locals := 22 } [.ref (A 63), .int p] (T, I, L, R, A) (fun r G' => r = some (.int (nI 0)) ∧ G' = (T, I, L, R, A)) := by
  refine hM.of (by decide +kernel) (Nat.le_of_ble_eq_true rfl) ?_
  intro z hl h0 hD hS hN C E
  subst hl; subst h0; subst hD; subst hS
  have C : hC z RX11 cX11_isSide := C
  have hZ := E.2.2.2.1
  show hX z 0 0 (T, I, L, R, A) [(0, .ref (A 63)), (1, .int p)] 0 []
  refine x_iload_n C dX11_isSide_0 1 rfl rfl ?_
  refine x_iconst (v := nI 0) C dX11_isSide_1 (by decide +kernel) ?_
  refine x_aload_n C dX11_isSide_2 0 rfl rfl ?_
  refine x_getiN C fl_X11_370 mO.1 rfl dX11_isSide_3 ?_
  refine x_eqi (y := nI ns) hns ?_
  refine x_iconst (v := nI 1) C dX11_isSide_6 (by decide +kernel) ?_
  refine x_isub C dX11_isSide_7 ?_
  refine x_callS C (ok_X11_in p (nI 0) ((nI ns) - (nI 1))) ms_X11_in ml_X11_366 rfl rfl (Nat.le_of_ble_eq_true rfl) (hrm (rm := { frames := 0, cells := 0, slots := 0, locals := 0 }) hZ ⟨Nat.le_of_ble_eq_true rfl, Nat.le_of_ble_eq_true rfl⟩) (hcs hZ ⟨Nat.le_of_ble_eq_true rfl, Nat.le_of_ble_eq_true rfl⟩) dX11_isSide_8 (fun v G' hp => ?_)
  obtain ⟨rfl, rfl⟩ := hp
  show hX z 0 0 (T, I, L, R, A) [(0, .ref (A 63)), (1, .int p)] 11 [.int (bI (decide ((nI 0) ≤ p ∧ p ≤ ((nI ns) - (nI 1)))))]
  refine x_eqi (y := nI 0) (by rw [in_bad (by omega) hb]; rfl) ?_
  exact x_zret C E (by first | exact Or.inl rfl | exact Or.inr rfl | assumption) (Nat.le_of_ble_eq_true rfl) (Nat.le_of_ble_eq_true rfl) dX11_isSide_11 (⟨rfl, rfl⟩)

set_option maxHeartbeats 4000000 in
set_option maxRecDepth 100000 in
theorem ok_X11_isSide {l : Launch} {a0 : Nat} {D : va_G} {sa : Nat → Nat} {T : Nat → Option hKd} {I : Nat → Nat → Int32} {L : Nat → Nat → Int64} {R : Nat → Nat → Option Nat} {A : Nat → Nat} (mO : isM T R A a0) (ns : Nat) (hns : I 63 33 = nI ns) (hn4 : ns ≤ 4) (k : Nat) (hk : k < ns) : hM l a0 D sa yX11_isSide cX11_isSide 2 (some .boolean) { frames := 1, cells := 0, slots := 0, locals := 22 } [.ref (A 63), .int (nI k)] (T, I, L, R, A) (fun r G' => r = some (.int (nI 1)) ∧ G' = (T, I, L, R, A)) := by
  refine hM.of (by decide +kernel) (Nat.le_of_ble_eq_true rfl) ?_
  intro z hl h0 hD hS hN C E
  subst hl; subst h0; subst hD; subst hS
  have C : hC z RX11 cX11_isSide := C
  have hZ := E.2.2.2.1
  show hX z 0 0 (T, I, L, R, A) [(0, .ref (A 63)), (1, .int (nI k))] 0 []
  refine x_iload_n C dX11_isSide_0 1 rfl rfl ?_
  refine x_iconst (v := nI 0) C dX11_isSide_1 (by decide +kernel) ?_
  refine x_aload_n C dX11_isSide_2 0 rfl rfl ?_
  refine x_getiN C fl_X11_370 mO.1 rfl dX11_isSide_3 ?_
  refine x_eqi (y := nI ns) hns ?_
  refine x_iconst (v := nI 1) C dX11_isSide_6 (by decide +kernel) ?_
  refine x_isub C dX11_isSide_7 ?_
  refine x_callS C (ok_X11_in (nI k) (nI 0) ((nI ns) - (nI 1))) ms_X11_in ml_X11_366 rfl rfl (Nat.le_of_ble_eq_true rfl) (hrm (rm := { frames := 0, cells := 0, slots := 0, locals := 0 }) hZ ⟨Nat.le_of_ble_eq_true rfl, Nat.le_of_ble_eq_true rfl⟩) (hcs hZ ⟨Nat.le_of_ble_eq_true rfl, Nat.le_of_ble_eq_true rfl⟩) dX11_isSide_8 (fun v G' hp => ?_)
  obtain ⟨rfl, rfl⟩ := hp
  show hX z 0 0 (T, I, L, R, A) [(0, .ref (A 63)), (1, .int (nI k))] 11 [.int (bI (decide ((nI 0) ≤ (nI k) ∧ (nI k) ≤ ((nI ns) - (nI 1)))))]
  refine x_eqi (y := nI 1) (by rw [in_ok (by omega) hk]; rfl) ?_
  exact x_zret C E (by first | exact Or.inl rfl | exact Or.inr rfl | assumption) (Nat.le_of_ble_eq_true rfl) (Nat.le_of_ble_eq_true rfl) dX11_isSide_11 (⟨rfl, rfl⟩)

set_option maxHeartbeats 4000000 in
set_option maxRecDepth 100000 in
theorem bd_X11_message {l : Launch} {a0 : Nat} {D : va_G} {sa : Nat → Nat} {T : Nat → Option hKd} {I : Nat → Nat → Int32} {L : Nat → Nat → Int64} {R : Nat → Nat → Option Nat} {A : Nat → Nat} (mO : isM T R A a0) (np : Nat) (hnp : I 63 24 = nI np) (hn8 : np ≤ 8) (p : Int32) (hb : p < 0 ∨ nI np ≤ p)  : hM l a0 D sa yX11_message cX11_message 2 (some .int) { frames := 2, cells := 0, slots := 0, locals := 43 } [.ref (A 63), .int p] (T, I, L, R, A) (fun r G' => r = some (.int (-2)) ∧ G' = (T, I, L, R, A)) := by
  refine hM.of (by decide +kernel) (Nat.le_of_ble_eq_true rfl) ?_
  intro z hl h0 hD hS hN C E
  subst hl; subst h0; subst hD; subst hS
  have C : hC z RX11 cX11_message := C
  have hZ := E.2.2.2.1
  show hX z 0 0 (T, I, L, R, A) [(0, .ref (A 63)), (1, .int p)] 0 []
  refine x_aload_n C dX11_message_0 0 rfl rfl ?_
  refine x_iload_n C dX11_message_1 1 rfl rfl ?_
  refine x_callV C (bd_X11_isPattern mO np hnp hn8 p hb) mv_X11_isPattern ml_X11_373 mO.1 rfl rfl rfl (Nat.le_of_ble_eq_true rfl) (hrm (rm := { frames := 0, cells := 0, slots := 0, locals := 0 }) hZ ⟨Nat.le_of_ble_eq_true rfl, Nat.le_of_ble_eq_true rfl⟩) (hcs hZ ⟨Nat.le_of_ble_eq_true rfl, Nat.le_of_ble_eq_true rfl⟩) dX11_message_2 (fun v G' hp => ?_)
  obtain ⟨rfl, rfl⟩ := hp
  show hX z 0 0 (T, I, L, R, A) [(0, .ref (A 63)), (1, .int p)] 5 [.int (nI 0)]
  refine x_if_neN (tgt := 11) C (by omega) dX11_message_5 (by decide) (fun c5 => absurd c5 (by omega)) (fun c5 => ?_)
  refine x_bipush (v := (-2)) C dX11_message_8 (by decide +kernel) ?_
  exact x_iret C E (Nat.le_of_ble_eq_true rfl) (Nat.le_of_ble_eq_true rfl) dX11_message_10 (⟨rfl, rfl⟩)

set_option maxHeartbeats 4000000 in
set_option maxRecDepth 100000 in
theorem bd_X11_token {l : Launch} {a0 : Nat} {D : va_G} {sa : Nat → Nat} {T : Nat → Option hKd} {I : Nat → Nat → Int32} {L : Nat → Nat → Int64} {R : Nat → Nat → Option Nat} {A : Nat → Nat} (mO : isM T R A a0) (np : Nat) (hnp : I 63 24 = nI np) (hn8 : np ≤ 8) (p : Int32) (hb : p < 0 ∨ nI np ≤ p) (q : Int32) : hM l a0 D sa yX11_token cX11_token 4 (some .int) { frames := 2, cells := 0, slots := 0, locals := 43 } [.ref (A 63), .int p, .int q] (T, I, L, R, A) (fun r G' => r = some (.int (-2)) ∧ G' = (T, I, L, R, A)) := by
  refine hM.of (by decide +kernel) (Nat.le_of_ble_eq_true rfl) ?_
  intro z hl h0 hD hS hN C E
  subst hl; subst h0; subst hD; subst hS
  have C : hC z RX11 cX11_token := C
  have hZ := E.2.2.2.1
  show hX z 0 0 (T, I, L, R, A) [(0, .ref (A 63)), (1, .int p), (2, .int q)] 0 []
  refine x_aload_n C dX11_token_0 0 rfl rfl ?_
  refine x_iload_n C dX11_token_1 1 rfl rfl ?_
  refine x_callV C (bd_X11_isPattern mO np hnp hn8 p hb) mv_X11_isPattern ml_X11_373 mO.1 rfl rfl rfl (Nat.le_of_ble_eq_true rfl) (hrm (rm := { frames := 0, cells := 0, slots := 0, locals := 0 }) hZ ⟨Nat.le_of_ble_eq_true rfl, Nat.le_of_ble_eq_true rfl⟩) (hcs hZ ⟨Nat.le_of_ble_eq_true rfl, Nat.le_of_ble_eq_true rfl⟩) dX11_token_2 (fun v G' hp => ?_)
  obtain ⟨rfl, rfl⟩ := hp
  show hX z 0 0 (T, I, L, R, A) [(0, .ref (A 63)), (1, .int p), (2, .int q)] 5 [.int (nI 0)]
  refine x_if_eqN (tgt := 17) C (by omega) dX11_token_5 (by decide) (fun c5 => ?_) (fun c5 => absurd c5 (by omega))
  refine x_bipush (v := (-2)) C dX11_token_17 (by decide +kernel) ?_
  exact x_iret C E (Nat.le_of_ble_eq_true rfl) (Nat.le_of_ble_eq_true rfl) dX11_token_19 (⟨rfl, rfl⟩)

set_option maxHeartbeats 4000000 in
set_option maxRecDepth 100000 in
theorem bd_X11_fault {l : Launch} {a0 : Nat} {D : va_G} {sa : Nat → Nat} {T : Nat → Option hKd} {I : Nat → Nat → Int32} {L : Nat → Nat → Int64} {R : Nat → Nat → Option Nat} {A : Nat → Nat} (mO : isM T R A a0) (np : Nat) (hnp : I 63 24 = nI np) (hn8 : np ≤ 8) (p : Int32) (hb : p < 0 ∨ nI np ≤ p)  : hM l a0 D sa yX11_fault cX11_fault 2 (some .int) { frames := 2, cells := 0, slots := 0, locals := 43 } [.ref (A 63), .int p] (T, I, L, R, A) (fun r G' => r = some (.int (-2)) ∧ G' = (T, I, L, R, A)) := by
  refine hM.of (by decide +kernel) (Nat.le_of_ble_eq_true rfl) ?_
  intro z hl h0 hD hS hN C E
  subst hl; subst h0; subst hD; subst hS
  have C : hC z RX11 cX11_fault := C
  have hZ := E.2.2.2.1
  show hX z 0 0 (T, I, L, R, A) [(0, .ref (A 63)), (1, .int p)] 0 []
  refine x_aload_n C dX11_fault_0 0 rfl rfl ?_
  refine x_iload_n C dX11_fault_1 1 rfl rfl ?_
  refine x_callV C (bd_X11_isPattern mO np hnp hn8 p hb) mv_X11_isPattern ml_X11_373 mO.1 rfl rfl rfl (Nat.le_of_ble_eq_true rfl) (hrm (rm := { frames := 0, cells := 0, slots := 0, locals := 0 }) hZ ⟨Nat.le_of_ble_eq_true rfl, Nat.le_of_ble_eq_true rfl⟩) (hcs hZ ⟨Nat.le_of_ble_eq_true rfl, Nat.le_of_ble_eq_true rfl⟩) dX11_fault_2 (fun v G' hp => ?_)
  obtain ⟨rfl, rfl⟩ := hp
  show hX z 0 0 (T, I, L, R, A) [(0, .ref (A 63)), (1, .int p)] 5 [.int (nI 0)]
  refine x_if_eqN (tgt := 16) C (by omega) dX11_fault_5 (by decide) (fun c5 => ?_) (fun c5 => absurd c5 (by omega))
  refine x_bipush (v := (-2)) C dX11_fault_16 (by decide +kernel) ?_
  exact x_iret C E (Nat.le_of_ble_eq_true rfl) (Nat.le_of_ble_eq_true rfl) dX11_fault_18 (⟨rfl, rfl⟩)

set_option maxHeartbeats 4000000 in
set_option maxRecDepth 100000 in
theorem bd_X11_told {l : Launch} {a0 : Nat} {D : va_G} {sa : Nat → Nat} {T : Nat → Option hKd} {I : Nat → Nat → Int32} {L : Nat → Nat → Int64} {R : Nat → Nat → Option Nat} {A : Nat → Nat} (mO : isM T R A a0) (np : Nat) (hnp : I 63 24 = nI np) (hn8 : np ≤ 8) (p : Int32) (hb : p < 0 ∨ nI np ≤ p) (q : Int32) : hM l a0 D sa yX11_told cX11_told 6 (some .int) { frames := 2, cells := 0, slots := 0, locals := 43 } [.ref (A 63), .int p, .int q] (T, I, L, R, A) (fun r G' => r = some (.int (-2)) ∧ G' = (T, I, L, R, A)) := by
  refine hM.of (by decide +kernel) (Nat.le_of_ble_eq_true rfl) ?_
  intro z hl h0 hD hS hN C E
  subst hl; subst h0; subst hD; subst hS
  have C : hC z RX11 cX11_told := C
  have hZ := E.2.2.2.1
  show hX z 0 0 (T, I, L, R, A) [(0, .ref (A 63)), (1, .int p), (2, .int q)] 0 []
  refine x_aload_n C dX11_told_0 0 rfl rfl ?_
  refine x_iload_n C dX11_told_1 1 rfl rfl ?_
  refine x_callV C (bd_X11_isPattern mO np hnp hn8 p hb) mv_X11_isPattern ml_X11_373 mO.1 rfl rfl rfl (Nat.le_of_ble_eq_true rfl) (hrm (rm := { frames := 0, cells := 0, slots := 0, locals := 0 }) hZ ⟨Nat.le_of_ble_eq_true rfl, Nat.le_of_ble_eq_true rfl⟩) (hcs hZ ⟨Nat.le_of_ble_eq_true rfl, Nat.le_of_ble_eq_true rfl⟩) dX11_told_2 (fun v G' hp => ?_)
  obtain ⟨rfl, rfl⟩ := hp
  show hX z 0 0 (T, I, L, R, A) [(0, .ref (A 63)), (1, .int p), (2, .int q)] 5 [.int (nI 0)]
  refine x_if_eqN (tgt := 18) C (by omega) dX11_told_5 (by decide) (fun c5 => ?_) (fun c5 => absurd c5 (by omega))
  refine x_bipush (v := (-2)) C dX11_told_18 (by decide +kernel) ?_
  exact x_iret C E (Nat.le_of_ble_eq_true rfl) (Nat.le_of_ble_eq_true rfl) dX11_told_20 (⟨rfl, rfl⟩)

set_option maxHeartbeats 4000000 in
set_option maxRecDepth 100000 in
theorem bd_X11_side {l : Launch} {a0 : Nat} {D : va_G} {sa : Nat → Nat} {T : Nat → Option hKd} {I : Nat → Nat → Int32} {L : Nat → Nat → Int64} {R : Nat → Nat → Option Nat} {A : Nat → Nat} (mO : isM T R A a0) (np : Nat) (hnp : I 63 24 = nI np) (hn8 : np ≤ 8) (p : Int32) (hb : p < 0 ∨ nI np ≤ p) (q r s t : Int32) : hM l a0 D sa yX11_side cX11_side 8 (some .int) { frames := 2, cells := 0, slots := 0, locals := 43 } [.ref (A 63), .int p, .int q, .int r, .int s, .int t] (T, I, L, R, A) (fun r G' => r = some (.int (-2)) ∧ G' = (T, I, L, R, A)) := by
  refine hM.of (by decide +kernel) (Nat.le_of_ble_eq_true rfl) ?_
  intro z hl h0 hD hS hN C E
  subst hl; subst h0; subst hD; subst hS
  have C : hC z RX11 cX11_side := C
  have hZ := E.2.2.2.1
  show hX z 0 0 (T, I, L, R, A) [(0, .ref (A 63)), (1, .int p), (2, .int q), (3, .int r), (4, .int s), (5, .int t)] 0 []
  refine x_aload_n C dX11_side_0 0 rfl rfl ?_
  refine x_iload_n C dX11_side_1 1 rfl rfl ?_
  refine x_callV C (bd_X11_isPattern mO np hnp hn8 p hb) mv_X11_isPattern ml_X11_373 mO.1 rfl rfl rfl (Nat.le_of_ble_eq_true rfl) (hrm (rm := { frames := 0, cells := 0, slots := 0, locals := 0 }) hZ ⟨Nat.le_of_ble_eq_true rfl, Nat.le_of_ble_eq_true rfl⟩) (hcs hZ ⟨Nat.le_of_ble_eq_true rfl, Nat.le_of_ble_eq_true rfl⟩) dX11_side_2 (fun v G' hp => ?_)
  obtain ⟨rfl, rfl⟩ := hp
  show hX z 0 0 (T, I, L, R, A) [(0, .ref (A 63)), (1, .int p), (2, .int q), (3, .int r), (4, .int s), (5, .int t)] 5 [.int (nI 0)]
  refine x_if_eqN (tgt := 28) C (by omega) dX11_side_5 (by decide) (fun c5 => ?_) (fun c5 => absurd c5 (by omega))
  refine x_bipush (v := (-2)) C dX11_side_28 (by decide +kernel) ?_
  exact x_iret C E (Nat.le_of_ble_eq_true rfl) (Nat.le_of_ble_eq_true rfl) dX11_side_30 (⟨rfl, rfl⟩)

set_option maxHeartbeats 4000000 in
set_option maxRecDepth 100000 in
theorem bd_X11_again {l : Launch} {a0 : Nat} {D : va_G} {sa : Nat → Nat} {T : Nat → Option hKd} {I : Nat → Nat → Int32} {L : Nat → Nat → Int64} {R : Nat → Nat → Option Nat} {A : Nat → Nat} (mO : isM T R A a0) (ns : Nat) (hns : I 63 33 = nI ns) (hn4 : ns ≤ 4) (p : Int32) (hb : p < 0 ∨ nI ns ≤ p)  : hM l a0 D sa yX11_again cX11_again 3 (some .int) { frames := 2, cells := 0, slots := 0, locals := 43 } [.ref (A 63), .int p] (T, I, L, R, A) (fun r G' => r = some (.int (-2)) ∧ G' = (T, I, L, R, A)) := by
  refine hM.of (by decide +kernel) (Nat.le_of_ble_eq_true rfl) ?_
  intro z hl h0 hD hS hN C E
  subst hl; subst h0; subst hD; subst hS
  have C : hC z RX11 cX11_again := C
  have hZ := E.2.2.2.1
  show hX z 0 0 (T, I, L, R, A) [(0, .ref (A 63)), (1, .int p)] 0 []
  refine x_aload_n C dX11_again_0 0 rfl rfl ?_
  refine x_iload_n C dX11_again_1 1 rfl rfl ?_
  refine x_callV C (bd_X11_isSide mO ns hns hn4 p hb) mv_X11_isSide ml_X11_415 mO.1 rfl rfl rfl (Nat.le_of_ble_eq_true rfl) (hrm (rm := { frames := 0, cells := 0, slots := 0, locals := 0 }) hZ ⟨Nat.le_of_ble_eq_true rfl, Nat.le_of_ble_eq_true rfl⟩) (hcs hZ ⟨Nat.le_of_ble_eq_true rfl, Nat.le_of_ble_eq_true rfl⟩) dX11_again_2 (fun v G' hp => ?_)
  obtain ⟨rfl, rfl⟩ := hp
  show hX z 0 0 (T, I, L, R, A) [(0, .ref (A 63)), (1, .int p)] 5 [.int (nI 0)]
  refine x_if_neN (tgt := 11) C (by omega) dX11_again_5 (by decide) (fun c5 => absurd c5 (by omega)) (fun c5 => ?_)
  refine x_bipush (v := (-2)) C dX11_again_8 (by decide +kernel) ?_
  exact x_iret C E (Nat.le_of_ble_eq_true rfl) (Nat.le_of_ble_eq_true rfl) dX11_again_10 (⟨rfl, rfl⟩)

set_option maxHeartbeats 4000000 in
set_option maxRecDepth 100000 in
theorem bd_X11_write {l : Launch} {a0 : Nat} {D : va_G} {sa : Nat → Nat} {T : Nat → Option hKd} {I : Nat → Nat → Int32} {L : Nat → Nat → Int64} {R : Nat → Nat → Option Nat} {A : Nat → Nat} (mO : isM T R A a0) (ns : Nat) (hns : I 63 33 = nI ns) (hn4 : ns ≤ 4) (p : Int32) (hb : p < 0 ∨ nI ns ≤ p)  : hM l a0 D sa yX11_write cX11_write 5 (some .int) { frames := 2, cells := 0, slots := 0, locals := 43 } [.ref (A 63), .int p] (T, I, L, R, A) (fun r G' => r = some (.int (-2)) ∧ G' = (T, I, L, R, A)) := by
  refine hM.of (by decide +kernel) (Nat.le_of_ble_eq_true rfl) ?_
  intro z hl h0 hD hS hN C E
  subst hl; subst h0; subst hD; subst hS
  have C : hC z RX11 cX11_write := C
  have hZ := E.2.2.2.1
  show hX z 0 0 (T, I, L, R, A) [(0, .ref (A 63)), (1, .int p)] 0 []
  refine x_aload_n C dX11_write_0 0 rfl rfl ?_
  refine x_iload_n C dX11_write_1 1 rfl rfl ?_
  refine x_callV C (bd_X11_isSide mO ns hns hn4 p hb) mv_X11_isSide ml_X11_415 mO.1 rfl rfl rfl (Nat.le_of_ble_eq_true rfl) (hrm (rm := { frames := 0, cells := 0, slots := 0, locals := 0 }) hZ ⟨Nat.le_of_ble_eq_true rfl, Nat.le_of_ble_eq_true rfl⟩) (hcs hZ ⟨Nat.le_of_ble_eq_true rfl, Nat.le_of_ble_eq_true rfl⟩) dX11_write_2 (fun v G' hp => ?_)
  obtain ⟨rfl, rfl⟩ := hp
  show hX z 0 0 (T, I, L, R, A) [(0, .ref (A 63)), (1, .int p)] 5 [.int (nI 0)]
  refine x_if_neN (tgt := 11) C (by omega) dX11_write_5 (by decide) (fun c5 => absurd c5 (by omega)) (fun c5 => ?_)
  refine x_bipush (v := (-2)) C dX11_write_8 (by decide +kernel) ?_
  exact x_iret C E (Nat.le_of_ble_eq_true rfl) (Nat.le_of_ble_eq_true rfl) dX11_write_10 (⟨rfl, rfl⟩)

set_option maxHeartbeats 4000000 in
set_option maxRecDepth 100000 in
theorem bd_X11_read {l : Launch} {a0 : Nat} {D : va_G} {sa : Nat → Nat} {T : Nat → Option hKd} {I : Nat → Nat → Int32} {L : Nat → Nat → Int64} {R : Nat → Nat → Option Nat} {A : Nat → Nat} (mO : isM T R A a0) (ns : Nat) (hns : I 63 33 = nI ns) (hn4 : ns ≤ 4) (p : Int32) (hb : p < 0 ∨ nI ns ≤ p)  : hM l a0 D sa yX11_read cX11_read 3 (some .int) { frames := 2, cells := 0, slots := 0, locals := 43 } [.ref (A 63), .int p] (T, I, L, R, A) (fun r G' => r = some (.int (-2)) ∧ G' = (T, I, L, R, A)) := by
  refine hM.of (by decide +kernel) (Nat.le_of_ble_eq_true rfl) ?_
  intro z hl h0 hD hS hN C E
  subst hl; subst h0; subst hD; subst hS
  have C : hC z RX11 cX11_read := C
  have hZ := E.2.2.2.1
  show hX z 0 0 (T, I, L, R, A) [(0, .ref (A 63)), (1, .int p)] 0 []
  refine x_aload_n C dX11_read_0 0 rfl rfl ?_
  refine x_iload_n C dX11_read_1 1 rfl rfl ?_
  refine x_callV C (bd_X11_isSide mO ns hns hn4 p hb) mv_X11_isSide ml_X11_415 mO.1 rfl rfl rfl (Nat.le_of_ble_eq_true rfl) (hrm (rm := { frames := 0, cells := 0, slots := 0, locals := 0 }) hZ ⟨Nat.le_of_ble_eq_true rfl, Nat.le_of_ble_eq_true rfl⟩) (hcs hZ ⟨Nat.le_of_ble_eq_true rfl, Nat.le_of_ble_eq_true rfl⟩) dX11_read_2 (fun v G' hp => ?_)
  obtain ⟨rfl, rfl⟩ := hp
  show hX z 0 0 (T, I, L, R, A) [(0, .ref (A 63)), (1, .int p)] 5 [.int (nI 0)]
  refine x_if_neN (tgt := 11) C (by omega) dX11_read_5 (by decide) (fun c5 => absurd c5 (by omega)) (fun c5 => ?_)
  refine x_bipush (v := (-2)) C dX11_read_8 (by decide +kernel) ?_
  exact x_iret C E (Nat.le_of_ble_eq_true rfl) (Nat.le_of_ble_eq_true rfl) dX11_read_10 (⟨rfl, rfl⟩)

set_option maxHeartbeats 4000000 in
set_option maxRecDepth 100000 in
theorem bd_X11_hash {l : Launch} {a0 : Nat} {D : va_G} {sa : Nat → Nat} {T : Nat → Option hKd} {I : Nat → Nat → Int32} {L : Nat → Nat → Int64} {R : Nat → Nat → Option Nat} {A : Nat → Nat} (mO : isM T R A a0) (ns : Nat) (hns : I 63 33 = nI ns) (hn4 : ns ≤ 4) (p : Int32) (hb : p < 0 ∨ nI ns ≤ p) (q : Int32) : hM l a0 D sa yX11_hash cX11_hash 3 (some .int) { frames := 2, cells := 0, slots := 0, locals := 43 } [.ref (A 63), .int p, .int q] (T, I, L, R, A) (fun r G' => r = some (.int (-2)) ∧ G' = (T, I, L, R, A)) := by
  refine hM.of (by decide +kernel) (Nat.le_of_ble_eq_true rfl) ?_
  intro z hl h0 hD hS hN C E
  subst hl; subst h0; subst hD; subst hS
  have C : hC z RX11 cX11_hash := C
  have hZ := E.2.2.2.1
  show hX z 0 0 (T, I, L, R, A) [(0, .ref (A 63)), (1, .int p), (2, .int q)] 0 []
  refine x_aload_n C dX11_hash_0 0 rfl rfl ?_
  refine x_iload_n C dX11_hash_1 1 rfl rfl ?_
  refine x_callV C (bd_X11_isSide mO ns hns hn4 p hb) mv_X11_isSide ml_X11_415 mO.1 rfl rfl rfl (Nat.le_of_ble_eq_true rfl) (hrm (rm := { frames := 0, cells := 0, slots := 0, locals := 0 }) hZ ⟨Nat.le_of_ble_eq_true rfl, Nat.le_of_ble_eq_true rfl⟩) (hcs hZ ⟨Nat.le_of_ble_eq_true rfl, Nat.le_of_ble_eq_true rfl⟩) dX11_hash_2 (fun v G' hp => ?_)
  obtain ⟨rfl, rfl⟩ := hp
  show hX z 0 0 (T, I, L, R, A) [(0, .ref (A 63)), (1, .int p), (2, .int q)] 5 [.int (nI 0)]
  refine x_if_eqN (tgt := 32) C (by omega) dX11_hash_5 (by decide) (fun c5 => ?_) (fun c5 => absurd c5 (by omega))
  refine x_bipush (v := (-2)) C dX11_hash_32 (by decide +kernel) ?_
  exact x_iret C E (Nat.le_of_ble_eq_true rfl) (Nat.le_of_ble_eq_true rfl) dX11_hash_34 (⟨rfl, rfl⟩)

set_option maxHeartbeats 4000000 in
set_option maxRecDepth 100000 in
theorem bd_X11_about {l : Launch} {a0 : Nat} {D : va_G} {sa : Nat → Nat} {T : Nat → Option hKd} {I : Nat → Nat → Int32} {L : Nat → Nat → Int64} {R : Nat → Nat → Option Nat} {A : Nat → Nat} (mO : isM T R A a0) (ns : Nat) (hns : I 63 33 = nI ns) (hn4 : ns ≤ 4) (p : Int32) (hb : p < 0 ∨ nI ns ≤ p) (q : Int32) : hM l a0 D sa yX11_about cX11_about 3 (some .int) { frames := 2, cells := 0, slots := 0, locals := 43 } [.ref (A 63), .int p, .int q] (T, I, L, R, A) (fun r G' => r = some (.int (-2)) ∧ G' = (T, I, L, R, A)) := by
  refine hM.of (by decide +kernel) (Nat.le_of_ble_eq_true rfl) ?_
  intro z hl h0 hD hS hN C E
  subst hl; subst h0; subst hD; subst hS
  have C : hC z RX11 cX11_about := C
  have hZ := E.2.2.2.1
  show hX z 0 0 (T, I, L, R, A) [(0, .ref (A 63)), (1, .int p), (2, .int q)] 0 []
  refine x_aload_n C dX11_about_0 0 rfl rfl ?_
  refine x_iload_n C dX11_about_1 1 rfl rfl ?_
  refine x_callV C (bd_X11_isSide mO ns hns hn4 p hb) mv_X11_isSide ml_X11_415 mO.1 rfl rfl rfl (Nat.le_of_ble_eq_true rfl) (hrm (rm := { frames := 0, cells := 0, slots := 0, locals := 0 }) hZ ⟨Nat.le_of_ble_eq_true rfl, Nat.le_of_ble_eq_true rfl⟩) (hcs hZ ⟨Nat.le_of_ble_eq_true rfl, Nat.le_of_ble_eq_true rfl⟩) dX11_about_2 (fun v G' hp => ?_)
  obtain ⟨rfl, rfl⟩ := hp
  show hX z 0 0 (T, I, L, R, A) [(0, .ref (A 63)), (1, .int p), (2, .int q)] 5 [.int (nI 0)]
  refine x_if_eqN (tgt := 27) C (by omega) dX11_about_5 (by decide) (fun c5 => ?_) (fun c5 => absurd c5 (by omega))
  refine x_bipush (v := (-2)) C dX11_about_27 (by decide +kernel) ?_
  exact x_iret C E (Nat.le_of_ble_eq_true rfl) (Nat.le_of_ble_eq_true rfl) dX11_about_29 (⟨rfl, rfl⟩)

set_option maxHeartbeats 4000000 in
set_option maxRecDepth 100000 in
theorem ok_X11_isUsed {l : Launch} {a0 : Nat} {D : va_G} {sa : Nat → Nat} {T : Nat → Option hKd} {I : Nat → Nat → Int32} {L : Nat → Nat → Int64} {R : Nat → Nat → Option Nat} {A : Nat → Nat} (mO : isM T R A a0) (ns : Nat) (hns : I 63 33 = nI ns) (hn4 : ns ≤ 4) (pa : Nat → Nat) (hpa : ∀ s, s < ns → I 34 s = nI (pa s) ∧ pa s < 8) (p : Nat) (hp8 : p < 8) : hM l a0 D sa yX11_isUsed cX11_isUsed 3 (some .boolean) { frames := 0, cells := 0, slots := 0, locals := 0 } [.ref (A 63), .int (nI p)] (T, I, L, R, A) (fun r G' => (∃ q : Bool, r = some (.int (bI q)) ∧ (q = true ↔ ∃ s, s < ns ∧ pa s = p)) ∧ G' = (T, I, L, R, A)) := by
  refine hM.of (by decide +kernel) (Nat.le_of_ble_eq_true rfl) ?_
  intro z hl h0 hD hS hN C E
  subst hl; subst h0; subst hD; subst hS
  have C : hC z RX11 cX11_isUsed := C
  have hZ := E.2.2.2.1
  show hX z 0 0 (T, I, L, R, A) [(0, .ref (A 63)), (1, .int (nI p))] 0 []
  refine x_iconst (v := nI 0) C dX11_isUsed_0 (by decide +kernel) ?_
  refine x_istore_n (lv' := [(2, .int (nI 0)), (0, .ref (A 63)), (1, .int (nI p))]) C dX11_isUsed_1 rfl (Nat.lt_of_lt_of_eq (by decide) hN.symm) rfl ?_
  have L2 : ∀ (fuel_ : Nat) (s : Nat), ns - s < fuel_ → (s ≤ ns) → (∀ x, x < s → pa x ≠ p) → hX z 0 0 (T, I, L, R, A) [(2, .int (nI s)), (0, .ref (A 63)), (1, .int (nI p))] 2 [] := by
    intro fuel_
    induction fuel_ with
    | zero => intro s hmz; exact absurd hmz (Nat.not_lt_zero _)
    | succ fuel_ ih2 =>
      intro s hmz hs hv
      refine x_iload_n C dX11_isUsed_2 0 rfl rfl ?_
      refine x_aload_n C dX11_isUsed_3 1 rfl rfl ?_
      refine x_getiN C fl_X11_370 mO.1 rfl dX11_isUsed_4 ?_
      refine x_eqi (y := nI ns) hns ?_
      refine x_icmp_geN (tgt := 28) C (by first | omega | (have h_ := (hpa s (by omega)).2; omega)) (by first | omega | (have h_ := (hpa s (by omega)).2; omega)) dX11_isUsed_7 (by decide) (fun c7 => ?_) (fun c7 => ?_)
      · refine x_iconst (v := nI 0) C dX11_isUsed_28 (by decide +kernel) ?_
        exact x_zret C E (by first | exact Or.inl rfl | exact Or.inr rfl | assumption) (Nat.le_of_ble_eq_true rfl) (Nat.le_of_ble_eq_true rfl) dX11_isUsed_29 (⟨⟨false, rfl, by simp only [Bool.false_eq_true, false_iff]; rintro ⟨x, h1, h2⟩; exact hv x (by omega) h2⟩, rfl⟩)
      · refine x_aload_n C dX11_isUsed_10 1 rfl rfl ?_
        refine x_getrN C fl_X11_177 mO.1 rfl (mO.2.2 34 _ rfl).1 dX11_isUsed_11 ?_
        refine x_iload_n C dX11_isUsed_14 0 rfl rfl ?_
        refine x_ialdN C (mO.2.2 34 _ rfl).2.1 (by first | omega | (have h_ := (hpa s (by omega)).2; omega)) (by omega) dX11_isUsed_15 ?_
        refine x_eqi (y := nI (pa s)) (hpa s (by omega)).1 ?_
        refine x_iload_n C dX11_isUsed_16 2 rfl rfl ?_
        refine x_icmp_neN (tgt := 22) C (by first | omega | (have h_ := (hpa s (by omega)).2; omega)) (by first | omega | (have h_ := (hpa s (by omega)).2; omega)) dX11_isUsed_17 (by decide) (fun c17 => ?_) (fun c17 => ?_)
        · refine x_iinc (v := nI (s + 1)) (lv' := [(2, .int (nI (s + 1))), (0, .ref (A 63)), (1, .int (nI p))]) C dX11_isUsed_22 0 rfl (nI_inc 1) (Nat.lt_of_lt_of_eq (by decide) hN.symm) rfl ?_
          refine x_goto (tgt := 2) C dX11_isUsed_25 (by decide) ?_
          refine x_sub (lv' := _) [0, 1, 2] rfl ?_
          exact ih2 (s + 1) (by omega) (by omega) (fun x hx => by rcases Nat.lt_or_ge x s with g | g; exact hv x g; rw [show x = s by omega]; exact c17)
        · refine x_iconst (v := nI 1) C dX11_isUsed_20 (by decide +kernel) ?_
          exact x_zret C E (by first | exact Or.inl rfl | exact Or.inr rfl | assumption) (Nat.le_of_ble_eq_true rfl) (Nat.le_of_ble_eq_true rfl) dX11_isUsed_21 (⟨⟨true, rfl, by simp only [true_iff]; exact ⟨s, by omega, c17⟩⟩, rfl⟩)
  refine x_sub (lv' := _) [0, 1, 2] rfl ?_
  exact L2 _ 0 (Nat.lt_succ_self _) (by omega) (fun x hx => absurd hx (Nat.not_lt_zero x))

set_option maxHeartbeats 4000000 in
set_option maxRecDepth 100000 in
theorem ok_X11_pattern {l : Launch} {a0 : Nat} {D : va_G} {sa : Nat → Nat} {T : Nat → Option hKd} {I : Nat → Nat → Int32} {L : Nat → Nat → Int64} {R : Nat → Nat → Option Nat} {A : Nat → Nat} (mO : isM T R A a0) (np : Nat) (hnp : I 63 24 = nI np) (hn8 : np ≤ 8) (u v : Int32) (hu : u = 0 ∨ u = 1) (hv : v = 0 ∨ v = 1) : hM l a0 D sa yX11_pattern cX11_pattern 3 (some .int) { frames := 0, cells := 0, slots := 0, locals := 0 } [.ref (A 63), .int u, .int v] (T, I, L, R, A) (fun r G' => (np = 8 ∧ r = some (.int (-4)) ∧ G' = (T, I, L, R, A)) ∨ (np < 8 ∧ r = some (.int (nI np)) ∧ ∃ I', G' = (T, I', L, R, A) ∧ I' 25 = upd (upd (I 25) (2 * np) u) (2 * np + 1) v ∧ I' 26 = upd (I 26) np (nI 0) ∧ I' 63 = upd (I 63) 24 (nI (np + 1)) ∧ fx [25, 26, 63] I I')) := by
  refine hM.of (by decide +kernel) (Nat.le_of_ble_eq_true rfl) ?_
  intro z hl h0 hD hS hN C E
  subst hl; subst h0; subst hD; subst hS
  have C : hC z RX11 cX11_pattern := C
  have hZ := E.2.2.2.1
  show hX z 0 0 (T, I, L, R, A) [(0, .ref (A 63)), (1, .int u), (2, .int v)] 0 []
  refine x_aload_n C dX11_pattern_0 0 rfl rfl ?_
  refine x_getiN C fl_X11_363 mO.1 rfl dX11_pattern_1 ?_
  refine x_eqi (y := nI np) (by exact hnp) ?_
  refine x_bipush (v := nI 8) C dX11_pattern_4 (by decide +kernel) ?_
  refine x_icmp_neN (tgt := 12) C (by omega) (by omega) dX11_pattern_6 (by decide) (fun c6 => ?_) (fun c6 => ?_)
  · refine x_aload_n C dX11_pattern_12 0 rfl rfl ?_
    refine x_getrN C fl_X11_152 mO.1 rfl (mO.2.2 25 _ rfl).1 dX11_pattern_13 ?_
    refine x_iconst (v := nI 2) C dX11_pattern_16 (by decide +kernel) ?_
    refine x_aload_n C dX11_pattern_17 0 rfl rfl ?_
    refine x_getiN C fl_X11_363 mO.1 rfl dX11_pattern_18 ?_
    refine x_eqi (y := nI np) (by exact hnp) ?_
    refine x_imulN C dX11_pattern_21 ?_
    refine x_iload_n C dX11_pattern_22 1 rfl rfl ?_
    refine x_zastN C (mO.2.2 25 _ rfl).2.1 (mO.2.2 25 _ rfl).2.2 (by omega) (by omega) (by first | exact Or.inl rfl | exact Or.inr rfl | assumption) dX11_pattern_23 (fun I1 eI1 => ?_)
    refine x_aload_n C dX11_pattern_24 0 rfl rfl ?_
    refine x_getrN C fl_X11_152 mO.1 rfl (mO.2.2 25 _ rfl).1 dX11_pattern_25 ?_
    refine x_iconst (v := nI 2) C dX11_pattern_28 (by decide +kernel) ?_
    refine x_aload_n C dX11_pattern_29 0 rfl rfl ?_
    refine x_getiN C fl_X11_363 mO.1 rfl dX11_pattern_30 ?_
    refine x_eqi (y := nI np) (by rw [eI1, va_up_other _ _ (by decide)]; exact hnp) ?_
    refine x_imulN C dX11_pattern_33 ?_
    refine x_iconst (v := nI 1) C dX11_pattern_34 (by decide +kernel) ?_
    refine x_iaddN C dX11_pattern_35 ?_
    refine x_iload_n C dX11_pattern_36 2 rfl rfl ?_
    refine x_zastN C (mO.2.2 25 _ rfl).2.1 (mO.2.2 25 _ rfl).2.2 (by omega) (by omega) (by first | exact Or.inl rfl | exact Or.inr rfl | assumption) dX11_pattern_37 (fun I2 eI2 => ?_)
    refine x_aload_n C dX11_pattern_38 0 rfl rfl ?_
    refine x_getrN C fl_X11_156 mO.1 rfl (mO.2.2 26 _ rfl).1 dX11_pattern_39 ?_
    refine x_aload_n C dX11_pattern_42 0 rfl rfl ?_
    refine x_getiN C fl_X11_363 mO.1 rfl dX11_pattern_43 ?_
    refine x_eqi (y := nI np) (by rw [eI2, va_up_other _ _ (by decide)]; rw [eI1, va_up_other _ _ (by decide)]; exact hnp) ?_
    refine x_iconst (v := nI 0) C dX11_pattern_46 (by decide +kernel) ?_
    refine x_iastN C (mO.2.2 26 _ rfl).2.1 (mO.2.2 26 _ rfl).2.2 (by omega) (by omega) dX11_pattern_47 (fun I3 eI3 => ?_)
    refine x_aload_n C dX11_pattern_48 0 rfl rfl ?_
    refine x_dup C dX11_pattern_49 rfl ?_
    refine x_getiN C fl_X11_363 mO.1 rfl dX11_pattern_50 ?_
    refine x_eqi (y := nI np) (by rw [eI3, va_up_other _ _ (by decide)]; rw [eI2, va_up_other _ _ (by decide)]; rw [eI1, va_up_other _ _ (by decide)]; exact hnp) ?_
    refine x_iconst (v := nI 1) C dX11_pattern_53 (by decide +kernel) ?_
    refine x_iaddN C dX11_pattern_54 ?_
    refine x_putiN C fl_X11_363 mO.1 mO.2.1 rfl dX11_pattern_55 (fun I4 eI4 => ?_)
    refine x_aload_n C dX11_pattern_58 0 rfl rfl ?_
    refine x_getiN C fl_X11_363 mO.1 rfl dX11_pattern_59 ?_
    refine x_eqi (y := nI (np + 1)) (by rw [eI4, va_up_same]; simp [upd]) ?_
    refine x_iconst (v := nI 1) C dX11_pattern_62 (by decide +kernel) ?_
    refine x_isubN C (by omega) dX11_pattern_63 ?_
    exact x_iret C E (Nat.le_of_ble_eq_true rfl) (Nat.le_of_ble_eq_true rfl) dX11_pattern_64 (Or.inr ⟨by omega, by rw [Nat.add_sub_cancel], _, rfl, by rw [eI4, va_up_other _ _ (by decide), eI3, va_up_other _ _ (by decide), eI2, va_up_same, eI1, va_up_same], by rw [eI4, va_up_other _ _ (by decide), eI3, va_up_same, eI2, va_up_other _ _ (by decide), eI1, va_up_other _ _ (by decide)], by rw [eI4, va_up_same, eI3, va_up_other _ _ (by decide), eI2, va_up_other _ _ (by decide), eI1, va_up_other _ _ (by decide)], by rw [eI4, eI3, eI2, eI1]; exact (((fx.rf.up (by simp)).up (by simp)).up (by simp)).up (by simp)⟩)
  · refine x_bipush (v := (-4)) C dX11_pattern_9 (by decide +kernel) ?_
    exact x_iret C E (Nat.le_of_ble_eq_true rfl) (Nat.le_of_ble_eq_true rfl) dX11_pattern_11 (Or.inl ⟨c6, rfl, rfl⟩)

set_option maxHeartbeats 4000000 in
set_option maxRecDepth 100000 in
theorem ok_X11_message {l : Launch} {a0 : Nat} {D : va_G} {sa : Nat → Nat} {T : Nat → Option hKd} {I : Nat → Nat → Int32} {L : Nat → Nat → Int64} {R : Nat → Nat → Option Nat} {A : Nat → Nat} (mO : isM T R A a0) (np : Nat) (hnp : I 63 24 = nI np) (hn8 : np ≤ 8) (ns : Nat) (hns : I 63 33 = nI ns) (hn4 : ns ≤ 4) (pa : Nat → Nat) (hpa : ∀ s, s < ns → I 34 s = nI (pa s) ∧ pa s < 8) (p : Nat) (kn : Nat → Bool) (ms : Nat) (sz : Nat → Nat) (tk : Nat → Nat → Nat) (hp : mdP I p kn ms sz tk) (hpn : p < np)  : hM l a0 D sa yX11_message cX11_message 2 (some .int) { frames := 2, cells := 0, slots := 0, locals := 43 } [.ref (A 63), .int (nI p)] (T, I, L, R, A) (fun r G' => ((∃ s, s < ns ∧ pa s = p) ∧ r = some (.int (-3)) ∧ G' = (T, I, L, R, A)) ∨ (¬ (∃ s, s < ns ∧ pa s = p) ∧ 6 ≤ ms ∧ r = some (.int (-4)) ∧ G' = (T, I, L, R, A)) ∨ (¬ (∃ s, s < ns ∧ pa s = p) ∧ ms < 6 ∧ r = some (.int (nI (ms + 1))) ∧ ∃ I', G' = (T, I', L, R, A) ∧ I' 27 = upd (I 27) (6 * p + ms) (nI 0) ∧ I' 26 = upd (I 26) p (nI (ms + 1)) ∧ fx [26, 27] I I')) := by
  refine hM.of (by decide +kernel) (Nat.le_of_ble_eq_true rfl) ?_
  intro z hl h0 hD hS hN C E
  subst hl; subst h0; subst hD; subst hS
  have C : hC z RX11 cX11_message := C
  have hZ := E.2.2.2.1
  show hX z 0 0 (T, I, L, R, A) [(0, .ref (A 63)), (1, .int (nI p))] 0 []
  have hms := hp.2.2.2.2.1
  refine x_aload_n C dX11_message_0 0 rfl rfl ?_
  refine x_iload_n C dX11_message_1 1 rfl rfl ?_
  refine x_callV C (ok_X11_isPattern mO np hnp hn8 p hpn) mv_X11_isPattern ml_X11_373 mO.1 rfl rfl rfl (Nat.le_of_ble_eq_true rfl) (hrm (rm := { frames := 0, cells := 0, slots := 0, locals := 0 }) hZ ⟨Nat.le_of_ble_eq_true rfl, Nat.le_of_ble_eq_true rfl⟩) (hcs hZ ⟨Nat.le_of_ble_eq_true rfl, Nat.le_of_ble_eq_true rfl⟩) dX11_message_2 (fun v G' hp => ?_)
  obtain ⟨rfl, rfl⟩ := hp
  show hX z 0 0 (T, I, L, R, A) [(0, .ref (A 63)), (1, .int (nI p))] 5 [.int (nI 1)]
  refine x_if_neN (tgt := 11) C (by omega) dX11_message_5 (by decide) (fun c5 => ?_) (fun c5 => absurd c5 (by omega))
  refine x_aload_n C dX11_message_11 0 rfl rfl ?_
  refine x_iload_n C dX11_message_12 1 rfl rfl ?_
  refine x_callV C (ok_X11_isUsed mO ns hns hn4 pa hpa p (by omega)) mv_X11_isUsed ml_X11_377 mO.1 rfl rfl rfl (Nat.le_of_ble_eq_true rfl) (hrm (rm := { frames := 0, cells := 0, slots := 0, locals := 0 }) hZ ⟨Nat.le_of_ble_eq_true rfl, Nat.le_of_ble_eq_true rfl⟩) (hcs hZ ⟨Nat.le_of_ble_eq_true rfl, Nat.le_of_ble_eq_true rfl⟩) dX11_message_13 (fun v G' hp => ?_)
  obtain ⟨⟨us, rfl, hus⟩, rfl⟩ := hp
  show hX z 0 0 (T, I, L, R, A) [(0, .ref (A 63)), (1, .int (nI p))] 16 [.int (bI us)]
  refine x_if_eq (tgt := 22) C dX11_message_16 (by decide) (fun c16 => ?_) (fun c16 => ?_)
  · refine x_aload_n C dX11_message_22 0 rfl rfl ?_
    refine x_getrN C fl_X11_156 mO.1 rfl (mO.2.2 26 _ rfl).1 dX11_message_23 ?_
    refine x_iload_n C dX11_message_26 1 rfl rfl ?_
    refine x_ialdN C (mO.2.2 26 _ rfl).2.1 (by omega) (by omega) dX11_message_27 ?_
    refine x_eqi (y := nI ms) hp.2.1 ?_
    refine x_bipush (v := nI 6) C dX11_message_28 (by decide +kernel) ?_
    refine x_icmp_neN (tgt := 36) C (by omega) (by omega) dX11_message_30 (by decide) (fun c30 => ?_) (fun c30 => ?_)
    · refine x_aload_n C dX11_message_36 0 rfl rfl ?_
      refine x_getrN C fl_X11_159 mO.1 rfl (mO.2.2 27 _ rfl).1 dX11_message_37 ?_
      refine x_bipush (v := nI 6) C dX11_message_40 (by decide +kernel) ?_
      refine x_iload_n C dX11_message_42 1 rfl rfl ?_
      refine x_imulN C dX11_message_43 ?_
      refine x_aload_n C dX11_message_44 0 rfl rfl ?_
      refine x_getrN C fl_X11_156 mO.1 rfl (mO.2.2 26 _ rfl).1 dX11_message_45 ?_
      refine x_iload_n C dX11_message_48 1 rfl rfl ?_
      refine x_ialdN C (mO.2.2 26 _ rfl).2.1 (by omega) (by omega) dX11_message_49 ?_
      refine x_eqi (y := nI ms) hp.2.1 ?_
      refine x_iaddN C dX11_message_50 ?_
      refine x_iconst (v := nI 0) C dX11_message_51 (by decide +kernel) ?_
      refine x_iastN C (mO.2.2 27 _ rfl).2.1 (mO.2.2 27 _ rfl).2.2 (by omega) (by omega) dX11_message_52 (fun I1 eI1 => ?_)
      refine x_aload_n C dX11_message_53 0 rfl rfl ?_
      refine x_getrN C fl_X11_156 mO.1 rfl (mO.2.2 26 _ rfl).1 dX11_message_54 ?_
      refine x_iload_n C dX11_message_57 1 rfl rfl ?_
      refine x_dup2 C dX11_message_58 rfl rfl ?_
      refine x_ialdN C (mO.2.2 26 _ rfl).2.1 (by omega) (by omega) dX11_message_59 ?_
      refine x_eqi (y := nI ms) (by rw [eI1, va_up_other _ _ (by decide)]; exact hp.2.1) ?_
      refine x_iconst (v := nI 1) C dX11_message_60 (by decide +kernel) ?_
      refine x_iaddN C dX11_message_61 ?_
      refine x_iastN C (mO.2.2 26 _ rfl).2.1 (mO.2.2 26 _ rfl).2.2 (by omega) (by omega) dX11_message_62 (fun I2 eI2 => ?_)
      refine x_aload_n C dX11_message_63 0 rfl rfl ?_
      refine x_getrN C fl_X11_156 mO.1 rfl (mO.2.2 26 _ rfl).1 dX11_message_64 ?_
      refine x_iload_n C dX11_message_67 1 rfl rfl ?_
      refine x_ialdN C (mO.2.2 26 _ rfl).2.1 (by omega) (by omega) dX11_message_68 ?_
      refine x_eqi (y := nI (ms + 1)) (by rw [eI2, va_up_same]; simp [upd]) ?_
      exact x_iret C E (Nat.le_of_ble_eq_true rfl) (Nat.le_of_ble_eq_true rfl) dX11_message_69 (Or.inr (Or.inr ⟨(fun h => by have := hus.mpr h; rw [bI_F c16] at this; cases this), by omega, rfl, _, rfl, by rw [eI2, va_up_other _ _ (by decide), eI1, va_up_same], by rw [eI2, va_up_same, eI1, va_up_other _ _ (by decide)], by rw [eI2, eI1]; exact (fx.rf.up (by simp)).up (by simp)⟩))
    · refine x_bipush (v := (-4)) C dX11_message_33 (by decide +kernel) ?_
      exact x_iret C E (Nat.le_of_ble_eq_true rfl) (Nat.le_of_ble_eq_true rfl) dX11_message_35 (Or.inr (Or.inl ⟨(fun h => by have := hus.mpr h; rw [bI_F c16] at this; cases this), by omega, rfl, rfl⟩))
  · refine x_bipush (v := (-3)) C dX11_message_19 (by decide +kernel) ?_
    exact x_iret C E (Nat.le_of_ble_eq_true rfl) (Nat.le_of_ble_eq_true rfl) dX11_message_21 (Or.inl ⟨hus.mp (bI_T c16), rfl, rfl⟩)

set_option maxHeartbeats 4000000 in
set_option maxRecDepth 100000 in
theorem ok_X11_token {l : Launch} {a0 : Nat} {D : va_G} {sa : Nat → Nat} {T : Nat → Option hKd} {I : Nat → Nat → Int32} {L : Nat → Nat → Int64} {R : Nat → Nat → Option Nat} {A : Nat → Nat} (mO : isM T R A a0) (np : Nat) (hnp : I 63 24 = nI np) (hn8 : np ≤ 8) (ns : Nat) (hns : I 63 33 = nI ns) (hn4 : ns ≤ 4) (pa : Nat → Nat) (hpa : ∀ s, s < ns → I 34 s = nI (pa s) ∧ pa s < 8) (p : Nat) (kn : Nat → Bool) (ms : Nat) (sz : Nat → Nat) (tk : Nat → Nat → Nat) (hp : mdP I p kn ms sz tk) (hpn : p < np) (t : Int32) : hM l a0 D sa yX11_token cX11_token 4 (some .int) { frames := 2, cells := 0, slots := 0, locals := 43 } [.ref (A 63), .int (nI p), .int t] (T, I, L, R, A) (fun r G' => ((t < 0 ∨ nI 5 < t) ∧ r = some (.int (-2)) ∧ G' = (T, I, L, R, A)) ∨ ∃ v, v ≤ 5 ∧ t = nI v ∧ ((((∃ s, s < ns ∧ pa s = p) ∨ ms = 0) ∧ r = some (.int (-3)) ∧ G' = (T, I, L, R, A)) ∨ (¬ (∃ s, s < ns ∧ pa s = p) ∧ 0 < ms ∧ 5 ≤ sz (ms - 1) ∧ r = some (.int (-4)) ∧ G' = (T, I, L, R, A)) ∨ (¬ (∃ s, s < ns ∧ pa s = p) ∧ 0 < ms ∧ sz (ms - 1) < 5 ∧ r = some (.int (nI (sz (ms - 1) + 1))) ∧ ∃ I', G' = (T, I', L, R, A) ∧ I' 28 = upd (I 28) (5 * (6 * p + (ms - 1)) + sz (ms - 1)) (nI v) ∧ I' 27 = upd (I 27) (6 * p + (ms - 1)) (nI (sz (ms - 1) + 1)) ∧ fx [27, 28] I I'))) := by
  refine hM.of (by decide +kernel) (Nat.le_of_ble_eq_true rfl) ?_
  intro z hl h0 hD hS hN C E
  subst hl; subst h0; subst hD; subst hS
  have C : hC z RX11 cX11_token := C
  have hZ := E.2.2.2.1
  show hX z 0 0 (T, I, L, R, A) [(0, .ref (A 63)), (1, .int (nI p)), (2, .int t)] 0 []
  have hms := hp.2.2.2.2.1
  refine x_aload_n C dX11_token_0 0 rfl rfl ?_
  refine x_iload_n C dX11_token_1 1 rfl rfl ?_
  refine x_callV C (ok_X11_isPattern mO np hnp hn8 p hpn) mv_X11_isPattern ml_X11_373 mO.1 rfl rfl rfl (Nat.le_of_ble_eq_true rfl) (hrm (rm := { frames := 0, cells := 0, slots := 0, locals := 0 }) hZ ⟨Nat.le_of_ble_eq_true rfl, Nat.le_of_ble_eq_true rfl⟩) (hcs hZ ⟨Nat.le_of_ble_eq_true rfl, Nat.le_of_ble_eq_true rfl⟩) dX11_token_2 (fun v G' hp => ?_)
  obtain ⟨rfl, rfl⟩ := hp
  show hX z 0 0 (T, I, L, R, A) [(0, .ref (A 63)), (1, .int (nI p)), (2, .int t)] 5 [.int (nI 1)]
  refine x_if_eqN (tgt := 17) C (by omega) dX11_token_5 (by decide) (fun c5 => absurd c5 (by omega)) (fun c5 => ?_)
  refine x_iload_n C dX11_token_8 2 rfl rfl ?_
  refine x_iconst (v := nI 0) C dX11_token_9 (by decide +kernel) ?_
  refine x_iconst (v := nI 5) C dX11_token_10 (by decide +kernel) ?_
  refine x_callS C (ok_X11_in t (nI 0) (nI 5)) ms_X11_in ml_X11_366 rfl rfl (Nat.le_of_ble_eq_true rfl) (hrm (rm := { frames := 0, cells := 0, slots := 0, locals := 0 }) hZ ⟨Nat.le_of_ble_eq_true rfl, Nat.le_of_ble_eq_true rfl⟩) (hcs hZ ⟨Nat.le_of_ble_eq_true rfl, Nat.le_of_ble_eq_true rfl⟩) dX11_token_11 (fun v G' hp => ?_)
  obtain ⟨rfl, rfl⟩ := hp
  show hX z 0 0 (T, I, L, R, A) [(0, .ref (A 63)), (1, .int (nI p)), (2, .int t)] 14 [.int (bI (decide ((nI 0) ≤ t ∧ t ≤ (nI 5))))]
  refine x_if_ne (tgt := 20) C dX11_token_14 (by decide) (fun c14 => ?_) (fun c14 => ?_)
  · obtain ⟨v, hv5, rfl⟩ := in_of (of_decide_eq_true (bI_T c14)) (by decide)
    have hz5 := hp.2.2.2.2.2.1 (ms - 1)
    refine x_aload_n C dX11_token_20 0 rfl rfl ?_
    refine x_getrN C fl_X11_156 mO.1 rfl (mO.2.2 26 _ rfl).1 dX11_token_21 ?_
    refine x_iload_n C dX11_token_24 1 rfl rfl ?_
    refine x_ialdN C (mO.2.2 26 _ rfl).2.1 (by omega) (by omega) dX11_token_25 ?_
    refine x_eqi (y := nI ms) hp.2.1 ?_
    refine x_if_eqN (tgt := 37) C (by omega) dX11_token_26 (by decide) (fun c26 => ?_) (fun c26 => ?_)
    · refine x_bipush (v := (-3)) C dX11_token_37 (by decide +kernel) ?_
      exact x_iret C E (Nat.le_of_ble_eq_true rfl) (Nat.le_of_ble_eq_true rfl) dX11_token_39 ((Or.inr ⟨v, hv5, rfl, Or.inl ⟨by first | exact Or.inr c26 | exact Or.inl (hus.mp (bI_T c34)), rfl, rfl⟩⟩))
    · refine x_aload_n C dX11_token_29 0 rfl rfl ?_
      refine x_iload_n C dX11_token_30 1 rfl rfl ?_
      refine x_callV C (ok_X11_isUsed mO ns hns hn4 pa hpa p (by omega)) mv_X11_isUsed ml_X11_377 mO.1 rfl rfl rfl (Nat.le_of_ble_eq_true rfl) (hrm (rm := { frames := 0, cells := 0, slots := 0, locals := 0 }) hZ ⟨Nat.le_of_ble_eq_true rfl, Nat.le_of_ble_eq_true rfl⟩) (hcs hZ ⟨Nat.le_of_ble_eq_true rfl, Nat.le_of_ble_eq_true rfl⟩) dX11_token_31 (fun v G' hp => ?_)
      obtain ⟨⟨us, rfl, hus⟩, rfl⟩ := hp
      show hX z 0 0 (T, I, L, R, A) [(0, .ref (A 63)), (1, .int (nI p)), (2, .int (nI v))] 34 [.int (bI us)]
      refine x_if_eq (tgt := 40) C dX11_token_34 (by decide) (fun c34 => ?_) (fun c34 => ?_)
      · refine x_bipush (v := nI 6) C dX11_token_40 (by decide +kernel) ?_
        refine x_iload_n C dX11_token_42 1 rfl rfl ?_
        refine x_imulN C dX11_token_43 ?_
        refine x_aload_n C dX11_token_44 0 rfl rfl ?_
        refine x_getrN C fl_X11_156 mO.1 rfl (mO.2.2 26 _ rfl).1 dX11_token_45 ?_
        refine x_iload_n C dX11_token_48 1 rfl rfl ?_
        refine x_ialdN C (mO.2.2 26 _ rfl).2.1 (by omega) (by omega) dX11_token_49 ?_
        refine x_eqi (y := nI ms) hp.2.1 ?_
        refine x_iaddN C dX11_token_50 ?_
        refine x_iconst (v := nI 1) C dX11_token_51 (by decide +kernel) ?_
        refine x_isubN C (by omega) dX11_token_52 ?_
        refine x_eqi (y := nI (6 * p + (ms - 1))) (by rw [show 6 * p + ms - 1 = 6 * p + (ms - 1) by omega]) ?_
        refine x_istore_n (lv' := [(3, .int (nI (6 * p + (ms - 1)))), (0, .ref (A 63)), (1, .int (nI p)), (2, .int (nI v))]) C dX11_token_53 rfl (Nat.lt_of_lt_of_eq (by decide) hN.symm) rfl ?_
        refine x_aload_n C dX11_token_54 1 rfl rfl ?_
        refine x_getrN C fl_X11_159 mO.1 rfl (mO.2.2 27 _ rfl).1 dX11_token_55 ?_
        refine x_iload_n C dX11_token_58 0 rfl rfl ?_
        refine x_ialdN C (mO.2.2 27 _ rfl).2.1 (by omega) (by omega) dX11_token_59 ?_
        refine x_eqi (y := nI (sz (ms - 1))) (hp.2.2.1 (ms - 1) (by omega)) ?_
        refine x_iconst (v := nI 5) C dX11_token_60 (by decide +kernel) ?_
        refine x_icmp_neN (tgt := 67) C (by omega) (by omega) dX11_token_61 (by decide) (fun c61 => ?_) (fun c61 => ?_)
        · refine x_aload_n C dX11_token_67 1 rfl rfl ?_
          refine x_getrN C fl_X11_162 mO.1 rfl (mO.2.2 28 _ rfl).1 dX11_token_68 ?_
          refine x_iconst (v := nI 5) C dX11_token_71 (by decide +kernel) ?_
          refine x_iload_n C dX11_token_72 0 rfl rfl ?_
          refine x_imulN C dX11_token_73 ?_
          refine x_aload_n C dX11_token_74 1 rfl rfl ?_
          refine x_getrN C fl_X11_159 mO.1 rfl (mO.2.2 27 _ rfl).1 dX11_token_75 ?_
          refine x_iload_n C dX11_token_78 0 rfl rfl ?_
          refine x_ialdN C (mO.2.2 27 _ rfl).2.1 (by omega) (by omega) dX11_token_79 ?_
          refine x_eqi (y := nI (sz (ms - 1))) (hp.2.2.1 (ms - 1) (by omega)) ?_
          refine x_iaddN C dX11_token_80 ?_
          refine x_iload_n C dX11_token_81 3 rfl rfl ?_
          refine x_iastN C (mO.2.2 28 _ rfl).2.1 (mO.2.2 28 _ rfl).2.2 (by omega) (by omega) dX11_token_82 (fun I1 eI1 => ?_)
          refine x_aload_n C dX11_token_83 1 rfl rfl ?_
          refine x_getrN C fl_X11_159 mO.1 rfl (mO.2.2 27 _ rfl).1 dX11_token_84 ?_
          refine x_iload_n C dX11_token_87 0 rfl rfl ?_
          refine x_dup2 C dX11_token_88 rfl rfl ?_
          refine x_ialdN C (mO.2.2 27 _ rfl).2.1 (by omega) (by omega) dX11_token_89 ?_
          refine x_eqi (y := nI (sz (ms - 1))) (by rw [eI1, va_up_other _ _ (by decide)]; exact hp.2.2.1 _ (by omega)) ?_
          refine x_iconst (v := nI 1) C dX11_token_90 (by decide +kernel) ?_
          refine x_iaddN C dX11_token_91 ?_
          refine x_iastN C (mO.2.2 27 _ rfl).2.1 (mO.2.2 27 _ rfl).2.2 (by omega) (by omega) dX11_token_92 (fun I2 eI2 => ?_)
          refine x_aload_n C dX11_token_93 1 rfl rfl ?_
          refine x_getrN C fl_X11_159 mO.1 rfl (mO.2.2 27 _ rfl).1 dX11_token_94 ?_
          refine x_iload_n C dX11_token_97 0 rfl rfl ?_
          refine x_ialdN C (mO.2.2 27 _ rfl).2.1 (by omega) (by omega) dX11_token_98 ?_
          refine x_eqi (y := nI (sz (ms - 1) + 1)) (by rw [eI2, va_up_same]; simp [upd]) ?_
          exact x_iret C E (Nat.le_of_ble_eq_true rfl) (Nat.le_of_ble_eq_true rfl) dX11_token_99 (Or.inr ⟨v, hv5, rfl, Or.inr (Or.inr ⟨(fun h => by have := hus.mpr h; rw [bI_F c34] at this; cases this), by omega, by omega, rfl, _, rfl, by rw [eI2, va_up_other _ _ (by decide), eI1, va_up_same], by rw [eI2, va_up_same, eI1, va_up_other _ _ (by decide)], by rw [eI2, eI1]; exact (fx.rf.up (by simp)).up (by simp)⟩)⟩)
        · refine x_bipush (v := (-4)) C dX11_token_64 (by decide +kernel) ?_
          exact x_iret C E (Nat.le_of_ble_eq_true rfl) (Nat.le_of_ble_eq_true rfl) dX11_token_66 (Or.inr ⟨v, hv5, rfl, Or.inr (Or.inl ⟨(fun h => by have := hus.mpr h; rw [bI_F c34] at this; cases this), by omega, by omega, rfl, rfl⟩)⟩)
      · refine x_bipush (v := (-3)) C dX11_token_37 (by decide +kernel) ?_
        exact x_iret C E (Nat.le_of_ble_eq_true rfl) (Nat.le_of_ble_eq_true rfl) dX11_token_39 ((Or.inr ⟨v, hv5, rfl, Or.inl ⟨by first | exact Or.inr c26 | exact Or.inl (hus.mp (bI_T c34)), rfl, rfl⟩⟩))
  · refine x_bipush (v := (-2)) C dX11_token_17 (by decide +kernel) ?_
    exact x_iret C E (Nat.le_of_ble_eq_true rfl) (Nat.le_of_ble_eq_true rfl) dX11_token_19 (Or.inl ⟨by have h := of_decide_eq_false (bI_F c14); rcases Int32.lt_or_le t 0 with g | g; exact Or.inl g; exact Or.inr (Int32.not_le.mp fun q => h ⟨by rw [nI_0]; exact g, q⟩), rfl, rfl⟩)

set_option maxHeartbeats 4000000 in
set_option maxRecDepth 100000 in
theorem ok_X11_fault {l : Launch} {a0 : Nat} {D : va_G} {sa : Nat → Nat} {T : Nat → Option hKd} {I : Nat → Nat → Int32} {L : Nat → Nat → Int64} {R : Nat → Nat → Option Nat} {A : Nat → Nat} (mO : isM T R A a0) (np : Nat) (hnp : I 63 24 = nI np) (hn8 : np ≤ 8) (ns : Nat) (hns : I 63 33 = nI ns) (hn4 : ns ≤ 4) (pa : Nat → Nat) (hpa : ∀ s, s < ns → I 34 s = nI (pa s) ∧ pa s < 8) (p : Nat) (kn : Nat → Bool) (ms : Nat) (sz : Nat → Nat) (tk : Nat → Nat → Nat) (hp : mdP I p kn ms sz tk) (hpn : p < np)  : hM l a0 D sa yX11_fault cX11_fault 2 (some .int) { frames := 3, cells := 0, slots := 0, locals := 70 } [.ref (A 63), .int (nI p)] (T, I, L, R, A) (fun r G' => (∃ f, r = some (.int (nI f)) ∧ isF kn ms sz tk f ∧ f ≤ 5) ∧ ∃ I', G' = (T, I', L, R, A) ∧ fx [29, 30, 31, 32] I I') := by
  refine hM.of (by decide +kernel) (Nat.le_of_ble_eq_true rfl) ?_
  intro z hl h0 hD hS hN C E
  subst hl; subst h0; subst hD; subst hS
  have C : hC z RX11 cX11_fault := C
  have hZ := E.2.2.2.1
  show hX z 0 0 (T, I, L, R, A) [(0, .ref (A 63)), (1, .int (nI p))] 0 []
  refine x_aload_n C dX11_fault_0 0 rfl rfl ?_
  refine x_iload_n C dX11_fault_1 1 rfl rfl ?_
  refine x_callV C (ok_X11_isPattern mO np hnp hn8 p hpn) mv_X11_isPattern ml_X11_373 mO.1 rfl rfl rfl (Nat.le_of_ble_eq_true rfl) (hrm (rm := { frames := 0, cells := 0, slots := 0, locals := 0 }) hZ ⟨Nat.le_of_ble_eq_true rfl, Nat.le_of_ble_eq_true rfl⟩) (hcs hZ ⟨Nat.le_of_ble_eq_true rfl, Nat.le_of_ble_eq_true rfl⟩) dX11_fault_2 (fun v G' hp => ?_)
  obtain ⟨rfl, rfl⟩ := hp
  show hX z 0 0 (T, I, L, R, A) [(0, .ref (A 63)), (1, .int (nI p))] 5 [.int (nI 1)]
  refine x_if_eqN (tgt := 16) C (by omega) dX11_fault_5 (by decide) (fun c5 => absurd c5 (by omega)) (fun c5 => ?_)
  refine x_aload_n C dX11_fault_8 0 rfl rfl ?_
  refine x_iload_n C dX11_fault_9 1 rfl rfl ?_
  refine x_callV C (ok_X11_faultOf mO p (by omega) kn ms sz tk hp) mv_X11_faultOf ml_X11_386 mO.1 rfl rfl rfl (Nat.le_of_ble_eq_true rfl) (hrm (rm := { frames := 0, cells := 0, slots := 0, locals := 0 }) hZ ⟨Nat.le_of_ble_eq_true rfl, Nat.le_of_ble_eq_true rfl⟩) (hcs hZ ⟨Nat.le_of_ble_eq_true rfl, Nat.le_of_ble_eq_true rfl⟩) dX11_fault_10 (fun v G' hp => ?_)
  obtain ⟨⟨f, rfl, hF, hf5⟩, K, rfl, kf⟩ := hp
  show hX z 0 0 (T, K, L, R, A) [(0, .ref (A 63)), (1, .int (nI p))] 13 [.int (nI f)]
  refine x_goto (tgt := 18) C dX11_fault_13 (by decide) ?_
  exact x_iret C E (Nat.le_of_ble_eq_true rfl) (Nat.le_of_ble_eq_true rfl) dX11_fault_18 (⟨⟨f, rfl, hF, hf5⟩, K, rfl, kf⟩)

set_option maxHeartbeats 4000000 in
set_option maxRecDepth 100000 in
theorem ok_X11_told {l : Launch} {a0 : Nat} {D : va_G} {sa : Nat → Nat} {T : Nat → Option hKd} {I : Nat → Nat → Int32} {L : Nat → Nat → Int64} {R : Nat → Nat → Option Nat} {A : Nat → Nat} (mO : isM T R A a0) (np : Nat) (hnp : I 63 24 = nI np) (hn8 : np ≤ 8) (ns : Nat) (hns : I 63 33 = nI ns) (hn4 : ns ≤ 4) (pa : Nat → Nat) (hpa : ∀ s, s < ns → I 34 s = nI (pa s) ∧ pa s < 8) (p : Nat) (kn : Nat → Bool) (ms : Nat) (sz : Nat → Nat) (tk : Nat → Nat → Nat) (hp : mdP I p kn ms sz tk) (hpn : p < np) (t : Int32) : hM l a0 D sa yX11_told cX11_told 6 (some .int) { frames := 2, cells := 0, slots := 0, locals := 43 } [.ref (A 63), .int (nI p), .int t] (T, I, L, R, A) (fun r G' => (((t < 0 ∨ nI 38 < t) ∧ r = some (.int (-2))) ∨ ∃ v, v ≤ 38 ∧ t = nI v ∧ r = some (.int (telF kn ms sz tk v))) ∧ G' = (T, I, L, R, A)) := by
  refine hM.of (by decide +kernel) (Nat.le_of_ble_eq_true rfl) ?_
  intro z hl h0 hD hS hN C E
  subst hl; subst h0; subst hD; subst hS
  have C : hC z RX11 cX11_told := C
  have hZ := E.2.2.2.1
  show hX z 0 0 (T, I, L, R, A) [(0, .ref (A 63)), (1, .int (nI p)), (2, .int t)] 0 []
  have hms := hp.2.2.2.2.1
  refine x_aload_n C dX11_told_0 0 rfl rfl ?_
  refine x_iload_n C dX11_told_1 1 rfl rfl ?_
  refine x_callV C (ok_X11_isPattern mO np hnp hn8 p hpn) mv_X11_isPattern ml_X11_373 mO.1 rfl rfl rfl (Nat.le_of_ble_eq_true rfl) (hrm (rm := { frames := 0, cells := 0, slots := 0, locals := 0 }) hZ ⟨Nat.le_of_ble_eq_true rfl, Nat.le_of_ble_eq_true rfl⟩) (hcs hZ ⟨Nat.le_of_ble_eq_true rfl, Nat.le_of_ble_eq_true rfl⟩) dX11_told_2 (fun v G' hp => ?_)
  obtain ⟨rfl, rfl⟩ := hp
  show hX z 0 0 (T, I, L, R, A) [(0, .ref (A 63)), (1, .int (nI p)), (2, .int t)] 5 [.int (nI 1)]
  refine x_if_eqN (tgt := 18) C (by omega) dX11_told_5 (by decide) (fun c5 => absurd c5 (by omega)) (fun c5 => ?_)
  refine x_iload_n C dX11_told_8 2 rfl rfl ?_
  refine x_iconst (v := nI 0) C dX11_told_9 (by decide +kernel) ?_
  refine x_bipush (v := nI 38) C dX11_told_10 (by decide +kernel) ?_
  refine x_callS C (ok_X11_in t (nI 0) (nI 38)) ms_X11_in ml_X11_366 rfl rfl (Nat.le_of_ble_eq_true rfl) (hrm (rm := { frames := 0, cells := 0, slots := 0, locals := 0 }) hZ ⟨Nat.le_of_ble_eq_true rfl, Nat.le_of_ble_eq_true rfl⟩) (hcs hZ ⟨Nat.le_of_ble_eq_true rfl, Nat.le_of_ble_eq_true rfl⟩) dX11_told_12 (fun v G' hp => ?_)
  obtain ⟨rfl, rfl⟩ := hp
  show hX z 0 0 (T, I, L, R, A) [(0, .ref (A 63)), (1, .int (nI p)), (2, .int t)] 15 [.int (bI (decide ((nI 0) ≤ t ∧ t ≤ (nI 38))))]
  refine x_if_ne (tgt := 21) C dX11_told_15 (by decide) (fun c15 => ?_) (fun c15 => ?_)
  · obtain ⟨v, hv, rfl⟩ := in_of (of_decide_eq_true (bI_T c15)) (by decide)
    refine x_iload_n C dX11_told_21 2 rfl rfl ?_
    refine x_iconst (v := nI 3) C dX11_told_22 (by decide +kernel) ?_
    refine x_icmp_geN (tgt := 60) C (by omega) (by omega) dX11_told_23 (by decide) (fun c23 => ?_) (fun c23 => ?_)
    · refine x_iload_n C dX11_told_60 2 rfl rfl ?_
      refine x_iconst (v := nI 3) C dX11_told_61 (by decide +kernel) ?_
      refine x_isubN C (by omega) dX11_told_62 ?_
      refine x_bipush (v := nI 6) C dX11_told_63 (by decide +kernel) ?_
      refine x_idivN C (by omega) (by omega) (by omega) dX11_told_65 ?_
      refine x_istore_n (lv' := [(3, .int (nI ((v - 3) / 6))), (0, .ref (A 63)), (1, .int (nI p)), (2, .int (nI v))]) C dX11_told_66 rfl (Nat.lt_of_lt_of_eq (by decide) hN.symm) rfl ?_
      refine x_iload_n C dX11_told_67 3 rfl rfl ?_
      refine x_iconst (v := nI 3) C dX11_told_68 (by decide +kernel) ?_
      refine x_isubN C (by omega) dX11_told_69 ?_
      refine x_bipush (v := nI 6) C dX11_told_70 (by decide +kernel) ?_
      refine x_iremN C (by omega) (by omega) (by omega) dX11_told_72 ?_
      refine x_istore (lv' := [(4, .int (nI ((v - 3) % 6))), (3, .int (nI ((v - 3) / 6))), (0, .ref (A 63)), (1, .int (nI p)), (2, .int (nI v))]) C dX11_told_73 (Nat.lt_of_lt_of_eq (by decide) hN.symm) rfl ?_
      refine x_iload_n C dX11_told_75 1 rfl rfl ?_
      refine x_aload_n C dX11_told_76 2 rfl rfl ?_
      refine x_getrN C fl_X11_156 mO.1 rfl (mO.2.2 26 _ rfl).1 dX11_told_77 ?_
      refine x_iload_n C dX11_told_80 3 rfl rfl ?_
      refine x_ialdN C (mO.2.2 26 _ rfl).2.1 (by omega) (by omega) dX11_told_81 ?_
      refine x_eqi (y := nI ms) hp.2.1 ?_
      refine x_icmp_ltN (tgt := 87) C (by omega) (by omega) dX11_told_82 (by decide) (fun c82 => ?_) (fun c82 => ?_)
      · have hz5 := hp.2.2.2.2.2.1 ((v - 3) / 6)
        refine x_bipush (v := nI 6) C dX11_told_87 (by decide +kernel) ?_
        refine x_iload_n C dX11_told_89 3 rfl rfl ?_
        refine x_imulN C dX11_told_90 ?_
        refine x_iload_n C dX11_told_91 1 rfl rfl ?_
        refine x_iaddN C dX11_told_92 ?_
        refine x_istore (lv' := [(5, .int (nI (6 * p + ((v - 3) / 6)))), (4, .int (nI ((v - 3) % 6))), (3, .int (nI ((v - 3) / 6))), (0, .ref (A 63)), (1, .int (nI p)), (2, .int (nI v))]) C dX11_told_93 (Nat.lt_of_lt_of_eq (by decide) hN.symm) rfl ?_
        refine x_iload C dX11_told_95 1 rfl ?_
        refine x_iconst (v := nI 5) C dX11_told_97 (by decide +kernel) ?_
        refine x_icmp_neN (tgt := 111) C (by omega) (by omega) dX11_told_98 (by decide) (fun c98 => ?_) (fun c98 => ?_)
        · refine x_iload C dX11_told_111 1 rfl ?_
          refine x_aload_n C dX11_told_113 3 rfl rfl ?_
          refine x_getrN C fl_X11_159 mO.1 rfl (mO.2.2 27 _ rfl).1 dX11_told_114 ?_
          refine x_iload C dX11_told_117 0 rfl ?_
          refine x_ialdN C (mO.2.2 27 _ rfl).2.1 (by omega) (by omega) dX11_told_119 ?_
          refine x_eqi (y := nI (sz ((v - 3) / 6))) (hp.2.2.1 ((v - 3) / 6) (by omega)) ?_
          refine x_icmp_geN (tgt := 138) C (by omega) (by omega) dX11_told_120 (by decide) (fun c120 => ?_) (fun c120 => ?_)
          · refine x_iconst (v := (-1)) C dX11_told_138 (by decide +kernel) ?_
            exact x_iret C E (Nat.le_of_ble_eq_true rfl) (Nat.le_of_ble_eq_true rfl) dX11_told_139 (⟨Or.inr ⟨v, hv, rfl, by unfold telF szF tkF; rw [if_neg (by omega), if_neg (by omega), if_neg (by omega)]; first | (rw [if_neg (by omega), if_neg (by omega), ite_self]; done) | (rw [if_neg (by omega), if_neg (by omega)]; done) | (split <;> rw [if_neg (by omega)])⟩, rfl⟩)
          · have ht5 := hp.2.2.2.2.2.2 ((v - 3) / 6) ((v - 3) % 6)
            refine x_aload_n C dX11_told_123 3 rfl rfl ?_
            refine x_getrN C fl_X11_162 mO.1 rfl (mO.2.2 28 _ rfl).1 dX11_told_124 ?_
            refine x_iconst (v := nI 5) C dX11_told_127 (by decide +kernel) ?_
            refine x_iload C dX11_told_128 0 rfl ?_
            refine x_imulN C dX11_told_130 ?_
            refine x_iload C dX11_told_131 1 rfl ?_
            refine x_iaddN C dX11_told_133 ?_
            refine x_ialdN C (mO.2.2 28 _ rfl).2.1 (by omega) (by omega) dX11_told_134 ?_
            refine x_eqi (y := nI (tk ((v - 3) / 6) ((v - 3) % 6))) (hp.2.2.2.1 ((v - 3) / 6) (by omega) ((v - 3) % 6) (by omega)) ?_
            refine x_goto (tgt := 139) C dX11_told_135 (by decide) ?_
            exact x_iret C E (Nat.le_of_ble_eq_true rfl) (Nat.le_of_ble_eq_true rfl) dX11_told_139 (⟨Or.inr ⟨v, hv, rfl, by unfold telF tkF; rw [if_neg (by omega), if_neg (by omega), if_neg (by omega), if_neg c98, if_pos ⟨by omega, by omega⟩]⟩, rfl⟩)
        · refine x_aload_n C dX11_told_101 3 rfl rfl ?_
          refine x_getrN C fl_X11_159 mO.1 rfl (mO.2.2 27 _ rfl).1 dX11_told_102 ?_
          refine x_iload C dX11_told_105 0 rfl ?_
          refine x_ialdN C (mO.2.2 27 _ rfl).2.1 (by omega) (by omega) dX11_told_107 ?_
          refine x_eqi (y := nI (sz ((v - 3) / 6))) (hp.2.2.1 ((v - 3) / 6) (by omega)) ?_
          refine x_goto (tgt := 139) C dX11_told_108 (by decide) ?_
          exact x_iret C E (Nat.le_of_ble_eq_true rfl) (Nat.le_of_ble_eq_true rfl) dX11_told_139 (⟨Or.inr ⟨v, hv, rfl, by unfold telF szF; rw [if_neg (by omega), if_neg (by omega), if_neg (by omega), if_pos c98, if_pos (by omega)]⟩, rfl⟩)
      · refine x_iconst (v := (-1)) C dX11_told_85 (by decide +kernel) ?_
        exact x_iret C E (Nat.le_of_ble_eq_true rfl) (Nat.le_of_ble_eq_true rfl) dX11_told_86 (⟨Or.inr ⟨v, hv, rfl, by unfold telF szF tkF; rw [if_neg (by omega), if_neg (by omega), if_neg (by omega)]; first | (rw [if_neg (by omega), if_neg (by omega), ite_self]; done) | (rw [if_neg (by omega), if_neg (by omega)]; done) | (split <;> rw [if_neg (by omega)])⟩, rfl⟩)
    · refine x_iload_n C dX11_told_26 2 rfl rfl ?_
      refine x_if_neN (tgt := 39) C (by omega) dX11_told_27 (by decide) (fun c27 => ?_) (fun c27 => ?_)
      · refine x_aload_n C dX11_told_39 0 rfl rfl ?_
        refine x_getrN C fl_X11_152 mO.1 rfl (mO.2.2 25 _ rfl).1 dX11_told_40 ?_
        refine x_iconst (v := nI 2) C dX11_told_43 (by decide +kernel) ?_
        refine x_iload_n C dX11_told_44 1 rfl rfl ?_
        refine x_imulN C dX11_told_45 ?_
        refine x_iload_n C dX11_told_46 2 rfl rfl ?_
        refine x_iaddN C dX11_told_47 ?_
        refine x_iconst (v := nI 1) C dX11_told_48 (by decide +kernel) ?_
        refine x_isubN C (by omega) dX11_told_49 ?_
        refine x_eqi (y := nI (2 * p + (v - 1))) (by rw [show 2 * p + v - 1 = 2 * p + (v - 1) by omega]) ?_
        refine x_zaldN C (mO.2.2 25 _ rfl).2.1 (by omega) (by omega) dX11_told_50 ?_
        refine x_eqi (y := bI (kn (v - 1))) (hp.1 (v - 1) (by omega)) ?_
        refine x_if_eq (tgt := 58) C dX11_told_51 (by decide) (fun c51 => ?_) (fun c51 => ?_)
        · refine x_iconst (v := nI 0) C dX11_told_58 (by decide +kernel) ?_
          exact x_iret C E (Nat.le_of_ble_eq_true rfl) (Nat.le_of_ble_eq_true rfl) dX11_told_59 (⟨Or.inr ⟨v, hv, rfl, by rcases (show v = 1 ∨ v = 2 by omega) with e | e <;> subst e <;> (show _ = some (Value.int (bI _)); rw [bI_F c51]; rfl)⟩, rfl⟩)
        · refine x_iconst (v := nI 1) C dX11_told_54 (by decide +kernel) ?_
          refine x_goto (tgt := 59) C dX11_told_55 (by decide) ?_
          exact x_iret C E (Nat.le_of_ble_eq_true rfl) (Nat.le_of_ble_eq_true rfl) dX11_told_59 (⟨Or.inr ⟨v, hv, rfl, by rcases (show v = 1 ∨ v = 2 by omega) with e | e <;> subst e <;> (show _ = some (Value.int (bI _)); rw [bI_T c51]; rfl)⟩, rfl⟩)
      · refine x_aload_n C dX11_told_30 0 rfl rfl ?_
        refine x_getrN C fl_X11_156 mO.1 rfl (mO.2.2 26 _ rfl).1 dX11_told_31 ?_
        refine x_iload_n C dX11_told_34 1 rfl rfl ?_
        refine x_ialdN C (mO.2.2 26 _ rfl).2.1 (by omega) (by omega) dX11_told_35 ?_
        refine x_eqi (y := nI ms) hp.2.1 ?_
        refine x_goto (tgt := 59) C dX11_told_36 (by decide) ?_
        exact x_iret C E (Nat.le_of_ble_eq_true rfl) (Nat.le_of_ble_eq_true rfl) dX11_told_59 (⟨Or.inr ⟨v, hv, rfl, by rw [show v = 0 by omega]; rfl⟩, rfl⟩)
  · refine x_bipush (v := (-2)) C dX11_told_18 (by decide +kernel) ?_
    exact x_iret C E (Nat.le_of_ble_eq_true rfl) (Nat.le_of_ble_eq_true rfl) dX11_told_20 (⟨Or.inl ⟨by have h := of_decide_eq_false (bI_F c15); rcases Int32.lt_or_le t 0 with g | g; exact Or.inl g; exact Or.inr (Int32.not_le.mp fun q => h ⟨by rw [nI_0]; exact g, q⟩), rfl⟩, rfl⟩)

