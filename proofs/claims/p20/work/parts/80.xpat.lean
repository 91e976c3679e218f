/-! ===== StepShake: patterns ===== -/
theorem bad_f {p : Int32} {n : Nat} (hb : p < 0 ∨ nI n ≤ p) (h1 : ¬ p < 0) (h2 : ¬ nI n ≤ p) : False := hb.elim h1 h2
theorem tok_of {t : Int32} (h0 : ¬ t < 0) (h5 : t ≤ nI 5) : ∃ v, v ≤ 5 ∧ t = nI v := in_of ⟨by rw [nI_0]; exact Int32.not_lt.mp h0, h5⟩ (by decide)
set_option maxHeartbeats 4000000 in
set_option maxRecDepth 100000 in
theorem bd_X10_patternAt {l : Launch} {a0 : Nat} {D : va_G} {sa : Nat → Nat} {T : Nat → Option hKd} {I : Nat → Nat → Int32} {L : Nat → Nat → Int64} {R : Nat → Nat → Option Nat} {A : Nat → Nat} (xO : isX T R A a0) (hsa : ∀ k, k < 5 → sa k = A (90 + k)) (np : Nat) (hnp : I 100 7 = nI np) (hn8 : np ≤ 8) (p : Int32) (hb : p < 0 ∨ nI np ≤ p) : hM l a0 D sa yX10_patternAt cX10_patternAt 2 (some (.object "StepShake$Pattern")) { frames := 0, cells := 0, slots := 0, locals := 0 } [.ref (A 100), .int p] (T, I, L, R, A) (fun r G' => r = some .null ∧ G' = (T, I, L, R, A)) := by
  refine hM.of (by decide +kernel) (Nat.le_of_ble_eq_true rfl) ?_
  intro z hl h0 hD hS hN C E
  subst hl; subst h0; subst hD; subst hS
  have C : hC z RX10 cX10_patternAt := C
  have hZ := E.2.2.2.1
  show hX z 0 0 (T, I, L, R, A) [(0, .ref (A 100)), (1, .int p)] 0 []
  refine x_iload_n C dX10_patternAt_0 1 rfl rfl ?_
  refine x_if_lt (tgt := 21) C dX10_patternAt_1 (by decide) (fun c1 => ?_) (fun c1 => ?_)
  · refine x_aconst C dX10_patternAt_21 ?_
    exact x_aret C E (Or.inl rfl) (Nat.le_of_ble_eq_true rfl) (Nat.le_of_ble_eq_true rfl) dX10_patternAt_22 (⟨rfl, rfl⟩)
  · refine x_iload_n C dX10_patternAt_4 1 rfl rfl ?_
    refine x_aload_n C dX10_patternAt_5 0 rfl rfl ?_
    refine x_getiN C fl_X10_47 (xO.1 100 _ rfl).1 rfl dX10_patternAt_6 ?_
    refine x_eqi (y := nI np) hnp ?_
    refine x_icmp_ge (tgt := 21) C dX10_patternAt_9 (by decide) (fun c9 => ?_) (fun c9 => ?_)
    · refine x_aconst C dX10_patternAt_21 ?_
      exact x_aret C E (Or.inl rfl) (Nat.le_of_ble_eq_true rfl) (Nat.le_of_ble_eq_true rfl) dX10_patternAt_22 (⟨rfl, rfl⟩)
    · exact (bad_f hb c1 c9).elim

set_option maxHeartbeats 4000000 in
set_option maxRecDepth 100000 in
theorem ok_X10_patternAt {l : Launch} {a0 : Nat} {D : va_G} {sa : Nat → Nat} {T : Nat → Option hKd} {I : Nat → Nat → Int32} {L : Nat → Nat → Int64} {R : Nat → Nat → Option Nat} {A : Nat → Nat} (xO : isX T R A a0) (hsa : ∀ k, k < 5 → sa k = A (90 + k)) (np : Nat) (hnp : I 100 7 = nI np) (hn8 : np ≤ 8) (k P : Nat) (hk : k < np) (hRk : R 101 k = some P) : hM l a0 D sa yX10_patternAt cX10_patternAt 2 (some (.object "StepShake$Pattern")) { frames := 0, cells := 0, slots := 0, locals := 0 } [.ref (A 100), .int (nI k)] (T, I, L, R, A) (fun r G' => r = some (.ref (A P)) ∧ G' = (T, I, L, R, A)) := by
  refine hM.of (by decide +kernel) (Nat.le_of_ble_eq_true rfl) ?_
  intro z hl h0 hD hS hN C E
  subst hl; subst h0; subst hD; subst hS
  have C : hC z RX10 cX10_patternAt := C
  have hZ := E.2.2.2.1
  show hX z 0 0 (T, I, L, R, A) [(0, .ref (A 100)), (1, .int (nI k))] 0 []
  refine x_iload_n C dX10_patternAt_0 1 rfl rfl ?_
  refine x_if_ltN (tgt := 21) C (by omega) dX10_patternAt_1 (by decide) ?_
  refine x_iload_n C dX10_patternAt_4 1 rfl rfl ?_
  refine x_aload_n C dX10_patternAt_5 0 rfl rfl ?_
  refine x_getiN C fl_X10_47 (xO.1 100 _ rfl).1 rfl dX10_patternAt_6 ?_
  refine x_eqi (y := nI np) hnp ?_
  refine x_icmp_geN (tgt := 21) C (by omega) (by omega) dX10_patternAt_9 (by decide) (fun c9 => absurd c9 (by omega)) (fun c9 => ?_)
  refine x_aload_n C dX10_patternAt_12 0 rfl rfl ?_
  refine x_getrN C fl_X10_11 (xO.1 100 _ rfl).1 rfl (xO.2.1 100 0 _ rfl) dX10_patternAt_13 ?_
  refine x_iload_n C dX10_patternAt_16 1 rfl rfl ?_
  refine x_aaldN C (xO.1 101 _ rfl).1 rfl (by omega) (by omega) hRk dX10_patternAt_17 ?_
  refine x_goto (tgt := 22) C dX10_patternAt_18 (by decide) ?_
  exact x_aret C E (Or.inr ⟨_, rfl⟩) (Nat.le_of_ble_eq_true rfl) (Nat.le_of_ble_eq_true rfl) dX10_patternAt_22 (⟨rfl, rfl⟩)

set_option maxHeartbeats 4000000 in
set_option maxRecDepth 100000 in
theorem bd_X10_sideAt {l : Launch} {a0 : Nat} {D : va_G} {sa : Nat → Nat} {T : Nat → Option hKd} {I : Nat → Nat → Int32} {L : Nat → Nat → Int64} {R : Nat → Nat → Option Nat} {A : Nat → Nat} (xO : isX T R A a0) (hsa : ∀ k, k < 5 → sa k = A (90 + k)) (ns : Nat) (hns : I 100 8 = nI ns) (hn4 : ns ≤ 4) (p : Int32) (hb : p < 0 ∨ nI ns ≤ p) : hM l a0 D sa yX10_sideAt cX10_sideAt 2 (some (.object "StepShake$Side")) { frames := 0, cells := 0, slots := 0, locals := 0 } [.ref (A 100), .int p] (T, I, L, R, A) (fun r G' => r = some .null ∧ G' = (T, I, L, R, A)) := by
  refine hM.of (by decide +kernel) (Nat.le_of_ble_eq_true rfl) ?_
  intro z hl h0 hD hS hN C E
  subst hl; subst h0; subst hD; subst hS
  have C : hC z RX10 cX10_sideAt := C
  have hZ := E.2.2.2.1
  show hX z 0 0 (T, I, L, R, A) [(0, .ref (A 100)), (1, .int p)] 0 []
  refine x_iload_n C dX10_sideAt_0 1 rfl rfl ?_
  refine x_if_lt (tgt := 21) C dX10_sideAt_1 (by decide) (fun c1 => ?_) (fun c1 => ?_)
  · refine x_aconst C dX10_sideAt_21 ?_
    exact x_aret C E (Or.inl rfl) (Nat.le_of_ble_eq_true rfl) (Nat.le_of_ble_eq_true rfl) dX10_sideAt_22 (⟨rfl, rfl⟩)
  · refine x_iload_n C dX10_sideAt_4 1 rfl rfl ?_
    refine x_aload_n C dX10_sideAt_5 0 rfl rfl ?_
    refine x_getiN C fl_X10_51 (xO.1 100 _ rfl).1 rfl dX10_sideAt_6 ?_
    refine x_eqi (y := nI ns) hns ?_
    refine x_icmp_ge (tgt := 21) C dX10_sideAt_9 (by decide) (fun c9 => ?_) (fun c9 => ?_)
    · refine x_aconst C dX10_sideAt_21 ?_
      exact x_aret C E (Or.inl rfl) (Nat.le_of_ble_eq_true rfl) (Nat.le_of_ble_eq_true rfl) dX10_sideAt_22 (⟨rfl, rfl⟩)
    · exact (bad_f hb c1 c9).elim

set_option maxHeartbeats 4000000 in
set_option maxRecDepth 100000 in
theorem ok_X10_sideAt {l : Launch} {a0 : Nat} {D : va_G} {sa : Nat → Nat} {T : Nat → Option hKd} {I : Nat → Nat → Int32} {L : Nat → Nat → Int64} {R : Nat → Nat → Option Nat} {A : Nat → Nat} (xO : isX T R A a0) (hsa : ∀ k, k < 5 → sa k = A (90 + k)) (ns : Nat) (hns : I 100 8 = nI ns) (hn4 : ns ≤ 4) (k P : Nat) (hk : k < ns) (hRk : R 102 k = some P) : hM l a0 D sa yX10_sideAt cX10_sideAt 2 (some (.object "StepShake$Side")) { frames := 0, cells := 0, slots := 0, locals := 0 } [.ref (A 100), .int (nI k)] (T, I, L, R, A) (fun r G' => r = some (.ref (A P)) ∧ G' = (T, I, L, R, A)) := by
  refine hM.of (by decide +kernel) (Nat.le_of_ble_eq_true rfl) ?_
  intro z hl h0 hD hS hN C E
  subst hl; subst h0; subst hD; subst hS
  have C : hC z RX10 cX10_sideAt := C
  have hZ := E.2.2.2.1
  show hX z 0 0 (T, I, L, R, A) [(0, .ref (A 100)), (1, .int (nI k))] 0 []
  refine x_iload_n C dX10_sideAt_0 1 rfl rfl ?_
  refine x_if_ltN (tgt := 21) C (by omega) dX10_sideAt_1 (by decide) ?_
  refine x_iload_n C dX10_sideAt_4 1 rfl rfl ?_
  refine x_aload_n C dX10_sideAt_5 0 rfl rfl ?_
  refine x_getiN C fl_X10_51 (xO.1 100 _ rfl).1 rfl dX10_sideAt_6 ?_
  refine x_eqi (y := nI ns) hns ?_
  refine x_icmp_geN (tgt := 21) C (by omega) (by omega) dX10_sideAt_9 (by decide) (fun c9 => absurd c9 (by omega)) (fun c9 => ?_)
  refine x_aload_n C dX10_sideAt_12 0 rfl rfl ?_
  refine x_getrN C fl_X10_17 (xO.1 100 _ rfl).1 rfl (xO.2.1 100 1 _ rfl) dX10_sideAt_13 ?_
  refine x_iload_n C dX10_sideAt_16 1 rfl rfl ?_
  refine x_aaldN C (xO.1 102 _ rfl).1 rfl (by omega) (by omega) hRk dX10_sideAt_17 ?_
  refine x_goto (tgt := 22) C dX10_sideAt_18 (by decide) ?_
  exact x_aret C E (Or.inr ⟨_, rfl⟩) (Nat.le_of_ble_eq_true rfl) (Nat.le_of_ble_eq_true rfl) dX10_sideAt_22 (⟨rfl, rfl⟩)

set_option maxHeartbeats 4000000 in
set_option maxRecDepth 100000 in
theorem bd_X10_message {l : Launch} {a0 : Nat} {D : va_G} {sa : Nat → Nat} {T : Nat → Option hKd} {I : Nat → Nat → Int32} {L : Nat → Nat → Int64} {R : Nat → Nat → Option Nat} {A : Nat → Nat} (xO : isX T R A a0) (hsa : ∀ k, k < 5 → sa k = A (90 + k)) (np : Nat) (hnp : I 100 7 = nI np) (hn8 : np ≤ 8) (p : Int32) (hb : p < 0 ∨ nI np ≤ p) : hM l a0 D sa yX10_message cX10_message 3 (some .int) { frames := 1, cells := 0, slots := 0, locals := 21 } [.ref (A 100), .int p] (T, I, L, R, A) (fun r G' => r = some (.int (-2)) ∧ G' = (T, I, L, R, A)) := by
  refine hM.of (by decide +kernel) (Nat.le_of_ble_eq_true rfl) ?_
  intro z hl h0 hD hS hN C E
  subst hl; subst h0; subst hD; subst hS
  have C : hC z RX10 cX10_message := C
  have hZ := E.2.2.2.1
  show hX z 0 0 (T, I, L, R, A) [(0, .ref (A 100)), (1, .int p)] 0 []
  refine x_aload_n C dX10_message_0 0 rfl rfl ?_
  refine x_iload_n C dX10_message_1 1 rfl rfl ?_
  refine x_callV C (bd_X10_patternAt xO hsa np hnp hn8 p hb) mv_X10_patternAt ml_X10_57 (xO.1 100 _ rfl).1 rfl rfl rfl (Nat.le_of_ble_eq_true rfl) (hrm (rm := { frames := 0, cells := 0, slots := 0, locals := 0 }) hZ ⟨Nat.le_of_ble_eq_true rfl, Nat.le_of_ble_eq_true rfl⟩) (hcs hZ ⟨Nat.le_of_ble_eq_true rfl, Nat.le_of_ble_eq_true rfl⟩) dX10_message_2 (fun v G' hp => ?_)
  obtain ⟨rfl, rfl⟩ := hp
  show hX z 0 0 (T, I, L, R, A) [(0, .ref (A 100)), (1, .int p)] 5 [.null]
  refine x_astore_nN (lv' := [(2, .null), (0, .ref (A 100)), (1, .int p)]) C dX10_message_5 rfl (Nat.lt_of_lt_of_eq (by decide) hN.symm) rfl ?_
  refine x_aload_nN C dX10_message_6 0 rfl rfl ?_
  refine x_ifnonnullN C dX10_message_7 ?_
  refine x_bipush (v := (-2)) C dX10_message_10 (by decide +kernel) ?_
  exact x_iret C E (Nat.le_of_ble_eq_true rfl) (Nat.le_of_ble_eq_true rfl) dX10_message_12 (⟨rfl, rfl⟩)

set_option maxHeartbeats 4000000 in
set_option maxRecDepth 100000 in
theorem bd_X10_token {l : Launch} {a0 : Nat} {D : va_G} {sa : Nat → Nat} {T : Nat → Option hKd} {I : Nat → Nat → Int32} {L : Nat → Nat → Int64} {R : Nat → Nat → Option Nat} {A : Nat → Nat} (xO : isX T R A a0) (hsa : ∀ k, k < 5 → sa k = A (90 + k)) (np : Nat) (hnp : I 100 7 = nI np) (hn8 : np ≤ 8) (p : Int32) (hb : p < 0 ∨ nI np ≤ p) (q : Int32) : hM l a0 D sa yX10_token cX10_token 4 (some .int) { frames := 1, cells := 0, slots := 0, locals := 21 } [.ref (A 100), .int p, .int q] (T, I, L, R, A) (fun r G' => r = some (.int (-2)) ∧ G' = (T, I, L, R, A)) := by
  refine hM.of (by decide +kernel) (Nat.le_of_ble_eq_true rfl) ?_
  intro z hl h0 hD hS hN C E
  subst hl; subst h0; subst hD; subst hS
  have C : hC z RX10 cX10_token := C
  have hZ := E.2.2.2.1
  show hX z 0 0 (T, I, L, R, A) [(0, .ref (A 100)), (1, .int p), (2, .int q)] 0 []
  refine x_aload_n C dX10_token_0 0 rfl rfl ?_
  refine x_iload_n C dX10_token_1 1 rfl rfl ?_
  refine x_callV C (bd_X10_patternAt xO hsa np hnp hn8 p hb) mv_X10_patternAt ml_X10_57 (xO.1 100 _ rfl).1 rfl rfl rfl (Nat.le_of_ble_eq_true rfl) (hrm (rm := { frames := 0, cells := 0, slots := 0, locals := 0 }) hZ ⟨Nat.le_of_ble_eq_true rfl, Nat.le_of_ble_eq_true rfl⟩) (hcs hZ ⟨Nat.le_of_ble_eq_true rfl, Nat.le_of_ble_eq_true rfl⟩) dX10_token_2 (fun v G' hp => ?_)
  obtain ⟨rfl, rfl⟩ := hp
  show hX z 0 0 (T, I, L, R, A) [(0, .ref (A 100)), (1, .int p), (2, .int q)] 5 [.null]
  refine x_astore_nN (lv' := [(3, .null), (0, .ref (A 100)), (1, .int p), (2, .int q)]) C dX10_token_5 rfl (Nat.lt_of_lt_of_eq (by decide) hN.symm) rfl ?_
  refine x_aload_nN C dX10_token_6 0 rfl rfl ?_
  refine x_ifnullN (tgt := 19) C dX10_token_7 (by decide) ?_
  refine x_bipush (v := (-2)) C dX10_token_19 (by decide +kernel) ?_
  exact x_iret C E (Nat.le_of_ble_eq_true rfl) (Nat.le_of_ble_eq_true rfl) dX10_token_21 (⟨rfl, rfl⟩)

set_option maxHeartbeats 4000000 in
set_option maxRecDepth 100000 in
theorem bd_X10_fault {l : Launch} {a0 : Nat} {D : va_G} {sa : Nat → Nat} {T : Nat → Option hKd} {I : Nat → Nat → Int32} {L : Nat → Nat → Int64} {R : Nat → Nat → Option Nat} {A : Nat → Nat} (xO : isX T R A a0) (hsa : ∀ k, k < 5 → sa k = A (90 + k)) (np : Nat) (hnp : I 100 7 = nI np) (hn8 : np ≤ 8) (p : Int32) (hb : p < 0 ∨ nI np ≤ p) : hM l a0 D sa yX10_fault cX10_fault 3 (some .int) { frames := 1, cells := 0, slots := 0, locals := 21 } [.ref (A 100), .int p] (T, I, L, R, A) (fun r G' => r = some (.int (-2)) ∧ G' = (T, I, L, R, A)) := by
  refine hM.of (by decide +kernel) (Nat.le_of_ble_eq_true rfl) ?_
  intro z hl h0 hD hS hN C E
  subst hl; subst h0; subst hD; subst hS
  have C : hC z RX10 cX10_fault := C
  have hZ := E.2.2.2.1
  show hX z 0 0 (T, I, L, R, A) [(0, .ref (A 100)), (1, .int p)] 0 []
  refine x_aload_n C dX10_fault_0 0 rfl rfl ?_
  refine x_iload_n C dX10_fault_1 1 rfl rfl ?_
  refine x_callV C (bd_X10_patternAt xO hsa np hnp hn8 p hb) mv_X10_patternAt ml_X10_57 (xO.1 100 _ rfl).1 rfl rfl rfl (Nat.le_of_ble_eq_true rfl) (hrm (rm := { frames := 0, cells := 0, slots := 0, locals := 0 }) hZ ⟨Nat.le_of_ble_eq_true rfl, Nat.le_of_ble_eq_true rfl⟩) (hcs hZ ⟨Nat.le_of_ble_eq_true rfl, Nat.le_of_ble_eq_true rfl⟩) dX10_fault_2 (fun v G' hp => ?_)
  obtain ⟨rfl, rfl⟩ := hp
  show hX z 0 0 (T, I, L, R, A) [(0, .ref (A 100)), (1, .int p)] 5 [.null]
  refine x_astore_nN (lv' := [(2, .null), (0, .ref (A 100)), (1, .int p)]) C dX10_fault_5 rfl (Nat.lt_of_lt_of_eq (by decide) hN.symm) rfl ?_
  refine x_aload_nN C dX10_fault_6 0 rfl rfl ?_
  refine x_ifnonnullN C dX10_fault_7 ?_
  refine x_bipush (v := (-2)) C dX10_fault_10 (by decide +kernel) ?_
  refine x_goto (tgt := 19) C dX10_fault_12 (by decide) ?_
  exact x_iret C E (Nat.le_of_ble_eq_true rfl) (Nat.le_of_ble_eq_true rfl) dX10_fault_19 (⟨rfl, rfl⟩)

set_option maxHeartbeats 4000000 in
set_option maxRecDepth 100000 in
theorem bd_X10_told {l : Launch} {a0 : Nat} {D : va_G} {sa : Nat → Nat} {T : Nat → Option hKd} {I : Nat → Nat → Int32} {L : Nat → Nat → Int64} {R : Nat → Nat → Option Nat} {A : Nat → Nat} (xO : isX T R A a0) (hsa : ∀ k, k < 5 → sa k = A (90 + k)) (np : Nat) (hnp : I 100 7 = nI np) (hn8 : np ≤ 8) (p : Int32) (hb : p < 0 ∨ nI np ≤ p) (q : Int32) : hM l a0 D sa yX10_told cX10_told 4 (some .int) { frames := 1, cells := 0, slots := 0, locals := 21 } [.ref (A 100), .int p, .int q] (T, I, L, R, A) (fun r G' => r = some (.int (-2)) ∧ G' = (T, I, L, R, A)) := by
  refine hM.of (by decide +kernel) (Nat.le_of_ble_eq_true rfl) ?_
  intro z hl h0 hD hS hN C E
  subst hl; subst h0; subst hD; subst hS
  have C : hC z RX10 cX10_told := C
  have hZ := E.2.2.2.1
  show hX z 0 0 (T, I, L, R, A) [(0, .ref (A 100)), (1, .int p), (2, .int q)] 0 []
  refine x_aload_n C dX10_told_0 0 rfl rfl ?_
  refine x_iload_n C dX10_told_1 1 rfl rfl ?_
  refine x_callV C (bd_X10_patternAt xO hsa np hnp hn8 p hb) mv_X10_patternAt ml_X10_57 (xO.1 100 _ rfl).1 rfl rfl rfl (Nat.le_of_ble_eq_true rfl) (hrm (rm := { frames := 0, cells := 0, slots := 0, locals := 0 }) hZ ⟨Nat.le_of_ble_eq_true rfl, Nat.le_of_ble_eq_true rfl⟩) (hcs hZ ⟨Nat.le_of_ble_eq_true rfl, Nat.le_of_ble_eq_true rfl⟩) dX10_told_2 (fun v G' hp => ?_)
  obtain ⟨rfl, rfl⟩ := hp
  show hX z 0 0 (T, I, L, R, A) [(0, .ref (A 100)), (1, .int p), (2, .int q)] 5 [.null]
  refine x_astore_nN (lv' := [(3, .null), (0, .ref (A 100)), (1, .int p), (2, .int q)]) C dX10_told_5 rfl (Nat.lt_of_lt_of_eq (by decide) hN.symm) rfl ?_
  refine x_aload_nN C dX10_told_6 0 rfl rfl ?_
  refine x_ifnullN (tgt := 20) C dX10_told_7 (by decide) ?_
  refine x_bipush (v := (-2)) C dX10_told_20 (by decide +kernel) ?_
  exact x_iret C E (Nat.le_of_ble_eq_true rfl) (Nat.le_of_ble_eq_true rfl) dX10_told_22 (⟨rfl, rfl⟩)

set_option maxHeartbeats 4000000 in
set_option maxRecDepth 100000 in
theorem bd_X10_side {l : Launch} {a0 : Nat} {D : va_G} {sa : Nat → Nat} {T : Nat → Option hKd} {I : Nat → Nat → Int32} {L : Nat → Nat → Int64} {R : Nat → Nat → Option Nat} {A : Nat → Nat} (xO : isX T R A a0) (hsa : ∀ k, k < 5 → sa k = A (90 + k)) (np : Nat) (hnp : I 100 7 = nI np) (hn8 : np ≤ 8) (p : Int32) (hb : p < 0 ∨ nI np ≤ p) (q r s t : Int32) : hM l a0 D sa yX10_side cX10_side 8 (some .int) { frames := 1, cells := 0, slots := 0, locals := 21 } [.ref (A 100), .int p, .int q, .int r, .int s, .int t] (T, I, L, R, A) (fun r G' => r = some (.int (-2)) ∧ G' = (T, I, L, R, A)) := by
  refine hM.of (by decide +kernel) (Nat.le_of_ble_eq_true rfl) ?_
  intro z hl h0 hD hS hN C E
  subst hl; subst h0; subst hD; subst hS
  have C : hC z RX10 cX10_side := C
  have hZ := E.2.2.2.1
  show hX z 0 0 (T, I, L, R, A) [(0, .ref (A 100)), (1, .int p), (2, .int q), (3, .int r), (4, .int s), (5, .int t)] 0 []
  refine x_aload_n C dX10_side_0 0 rfl rfl ?_
  refine x_iload_n C dX10_side_1 1 rfl rfl ?_
  refine x_callV C (bd_X10_patternAt xO hsa np hnp hn8 p hb) mv_X10_patternAt ml_X10_57 (xO.1 100 _ rfl).1 rfl rfl rfl (Nat.le_of_ble_eq_true rfl) (hrm (rm := { frames := 0, cells := 0, slots := 0, locals := 0 }) hZ ⟨Nat.le_of_ble_eq_true rfl, Nat.le_of_ble_eq_true rfl⟩) (hcs hZ ⟨Nat.le_of_ble_eq_true rfl, Nat.le_of_ble_eq_true rfl⟩) dX10_side_2 (fun v G' hp => ?_)
  obtain ⟨rfl, rfl⟩ := hp
  show hX z 0 0 (T, I, L, R, A) [(0, .ref (A 100)), (1, .int p), (2, .int q), (3, .int r), (4, .int s), (5, .int t)] 5 [.null]
  refine x_astoreN (lv' := [(6, .null), (0, .ref (A 100)), (1, .int p), (2, .int q), (3, .int r), (4, .int s), (5, .int t)]) C dX10_side_5 (Nat.lt_of_lt_of_eq (by decide) hN.symm) rfl ?_
  refine x_aloadN C dX10_side_7 0 rfl ?_
  refine x_ifnullN (tgt := 32) C dX10_side_9 (by decide) ?_
  refine x_bipush (v := (-2)) C dX10_side_32 (by decide +kernel) ?_
  exact x_iret C E (Nat.le_of_ble_eq_true rfl) (Nat.le_of_ble_eq_true rfl) dX10_side_34 (⟨rfl, rfl⟩)

set_option maxHeartbeats 4000000 in
set_option maxRecDepth 100000 in
theorem bd_X10_again {l : Launch} {a0 : Nat} {D : va_G} {sa : Nat → Nat} {T : Nat → Option hKd} {I : Nat → Nat → Int32} {L : Nat → Nat → Int64} {R : Nat → Nat → Option Nat} {A : Nat → Nat} (xO : isX T R A a0) (hsa : ∀ k, k < 5 → sa k = A (90 + k)) (ns : Nat) (hns : I 100 8 = nI ns) (hn4 : ns ≤ 4) (p : Int32) (hb : p < 0 ∨ nI ns ≤ p) : hM l a0 D sa yX10_again cX10_again 4 (some .int) { frames := 1, cells := 0, slots := 0, locals := 21 } [.ref (A 100), .int p] (T, I, L, R, A) (fun r G' => r = some (.int (-2)) ∧ G' = (T, I, L, R, A)) := by
  refine hM.of (by decide +kernel) (Nat.le_of_ble_eq_true rfl) ?_
  intro z hl h0 hD hS hN C E
  subst hl; subst h0; subst hD; subst hS
  have C : hC z RX10 cX10_again := C
  have hZ := E.2.2.2.1
  show hX z 0 0 (T, I, L, R, A) [(0, .ref (A 100)), (1, .int p)] 0 []
  refine x_aload_n C dX10_again_0 0 rfl rfl ?_
  refine x_iload_n C dX10_again_1 1 rfl rfl ?_
  refine x_callV C (bd_X10_sideAt xO hsa ns hns hn4 p hb) mv_X10_sideAt ml_X10_97 (xO.1 100 _ rfl).1 rfl rfl rfl (Nat.le_of_ble_eq_true rfl) (hrm (rm := { frames := 0, cells := 0, slots := 0, locals := 0 }) hZ ⟨Nat.le_of_ble_eq_true rfl, Nat.le_of_ble_eq_true rfl⟩) (hcs hZ ⟨Nat.le_of_ble_eq_true rfl, Nat.le_of_ble_eq_true rfl⟩) dX10_again_2 (fun v G' hp => ?_)
  obtain ⟨rfl, rfl⟩ := hp
  show hX z 0 0 (T, I, L, R, A) [(0, .ref (A 100)), (1, .int p)] 5 [.null]
  refine x_astore_nN (lv' := [(2, .null), (0, .ref (A 100)), (1, .int p)]) C dX10_again_5 rfl (Nat.lt_of_lt_of_eq (by decide) hN.symm) rfl ?_
  refine x_aload_nN C dX10_again_6 0 rfl rfl ?_
  refine x_ifnonnullN C dX10_again_7 ?_
  refine x_bipush (v := (-2)) C dX10_again_10 (by decide +kernel) ?_
  exact x_iret C E (Nat.le_of_ble_eq_true rfl) (Nat.le_of_ble_eq_true rfl) dX10_again_12 (⟨rfl, rfl⟩)

set_option maxHeartbeats 4000000 in
set_option maxRecDepth 100000 in
theorem bd_X10_write {l : Launch} {a0 : Nat} {D : va_G} {sa : Nat → Nat} {T : Nat → Option hKd} {I : Nat → Nat → Int32} {L : Nat → Nat → Int64} {R : Nat → Nat → Option Nat} {A : Nat → Nat} (xO : isX T R A a0) (hsa : ∀ k, k < 5 → sa k = A (90 + k)) (ns : Nat) (hns : I 100 8 = nI ns) (hn4 : ns ≤ 4) (p : Int32) (hb : p < 0 ∨ nI ns ≤ p) : hM l a0 D sa yX10_write cX10_write 3 (some .int) { frames := 1, cells := 0, slots := 0, locals := 21 } [.ref (A 100), .int p] (T, I, L, R, A) (fun r G' => r = some (.int (-2)) ∧ G' = (T, I, L, R, A)) := by
  refine hM.of (by decide +kernel) (Nat.le_of_ble_eq_true rfl) ?_
  intro z hl h0 hD hS hN C E
  subst hl; subst h0; subst hD; subst hS
  have C : hC z RX10 cX10_write := C
  have hZ := E.2.2.2.1
  show hX z 0 0 (T, I, L, R, A) [(0, .ref (A 100)), (1, .int p)] 0 []
  refine x_aload_n C dX10_write_0 0 rfl rfl ?_
  refine x_iload_n C dX10_write_1 1 rfl rfl ?_
  refine x_callV C (bd_X10_sideAt xO hsa ns hns hn4 p hb) mv_X10_sideAt ml_X10_97 (xO.1 100 _ rfl).1 rfl rfl rfl (Nat.le_of_ble_eq_true rfl) (hrm (rm := { frames := 0, cells := 0, slots := 0, locals := 0 }) hZ ⟨Nat.le_of_ble_eq_true rfl, Nat.le_of_ble_eq_true rfl⟩) (hcs hZ ⟨Nat.le_of_ble_eq_true rfl, Nat.le_of_ble_eq_true rfl⟩) dX10_write_2 (fun v G' hp => ?_)
  obtain ⟨rfl, rfl⟩ := hp
  show hX z 0 0 (T, I, L, R, A) [(0, .ref (A 100)), (1, .int p)] 5 [.null]
  refine x_astore_nN (lv' := [(2, .null), (0, .ref (A 100)), (1, .int p)]) C dX10_write_5 rfl (Nat.lt_of_lt_of_eq (by decide) hN.symm) rfl ?_
  refine x_aload_nN C dX10_write_6 0 rfl rfl ?_
  refine x_ifnonnullN C dX10_write_7 ?_
  refine x_bipush (v := (-2)) C dX10_write_10 (by decide +kernel) ?_
  exact x_iret C E (Nat.le_of_ble_eq_true rfl) (Nat.le_of_ble_eq_true rfl) dX10_write_12 (⟨rfl, rfl⟩)

set_option maxHeartbeats 4000000 in
set_option maxRecDepth 100000 in
theorem bd_X10_read {l : Launch} {a0 : Nat} {D : va_G} {sa : Nat → Nat} {T : Nat → Option hKd} {I : Nat → Nat → Int32} {L : Nat → Nat → Int64} {R : Nat → Nat → Option Nat} {A : Nat → Nat} (xO : isX T R A a0) (hsa : ∀ k, k < 5 → sa k = A (90 + k)) (ns : Nat) (hns : I 100 8 = nI ns) (hn4 : ns ≤ 4) (p : Int32) (hb : p < 0 ∨ nI ns ≤ p) : hM l a0 D sa yX10_read cX10_read 4 (some .int) { frames := 1, cells := 0, slots := 0, locals := 21 } [.ref (A 100), .int p] (T, I, L, R, A) (fun r G' => r = some (.int (-2)) ∧ G' = (T, I, L, R, A)) := by
  refine hM.of (by decide +kernel) (Nat.le_of_ble_eq_true rfl) ?_
  intro z hl h0 hD hS hN C E
  subst hl; subst h0; subst hD; subst hS
  have C : hC z RX10 cX10_read := C
  have hZ := E.2.2.2.1
  show hX z 0 0 (T, I, L, R, A) [(0, .ref (A 100)), (1, .int p)] 0 []
  refine x_aload_n C dX10_read_0 0 rfl rfl ?_
  refine x_iload_n C dX10_read_1 1 rfl rfl ?_
  refine x_callV C (bd_X10_sideAt xO hsa ns hns hn4 p hb) mv_X10_sideAt ml_X10_97 (xO.1 100 _ rfl).1 rfl rfl rfl (Nat.le_of_ble_eq_true rfl) (hrm (rm := { frames := 0, cells := 0, slots := 0, locals := 0 }) hZ ⟨Nat.le_of_ble_eq_true rfl, Nat.le_of_ble_eq_true rfl⟩) (hcs hZ ⟨Nat.le_of_ble_eq_true rfl, Nat.le_of_ble_eq_true rfl⟩) dX10_read_2 (fun v G' hp => ?_)
  obtain ⟨rfl, rfl⟩ := hp
  show hX z 0 0 (T, I, L, R, A) [(0, .ref (A 100)), (1, .int p)] 5 [.null]
  refine x_astore_nN (lv' := [(2, .null), (0, .ref (A 100)), (1, .int p)]) C dX10_read_5 rfl (Nat.lt_of_lt_of_eq (by decide) hN.symm) rfl ?_
  refine x_aload_nN C dX10_read_6 0 rfl rfl ?_
  refine x_ifnonnullN C dX10_read_7 ?_
  refine x_bipush (v := (-2)) C dX10_read_10 (by decide +kernel) ?_
  exact x_iret C E (Nat.le_of_ble_eq_true rfl) (Nat.le_of_ble_eq_true rfl) dX10_read_12 (⟨rfl, rfl⟩)

set_option maxHeartbeats 4000000 in
set_option maxRecDepth 100000 in
theorem bd_X10_hash {l : Launch} {a0 : Nat} {D : va_G} {sa : Nat → Nat} {T : Nat → Option hKd} {I : Nat → Nat → Int32} {L : Nat → Nat → Int64} {R : Nat → Nat → Option Nat} {A : Nat → Nat} (xO : isX T R A a0) (hsa : ∀ k, k < 5 → sa k = A (90 + k)) (ns : Nat) (hns : I 100 8 = nI ns) (hn4 : ns ≤ 4) (p : Int32) (hb : p < 0 ∨ nI ns ≤ p) (q : Int32) : hM l a0 D sa yX10_hash cX10_hash 4 (some .int) { frames := 1, cells := 0, slots := 0, locals := 21 } [.ref (A 100), .int p, .int q] (T, I, L, R, A) (fun r G' => r = some (.int (-2)) ∧ G' = (T, I, L, R, A)) := by
  refine hM.of (by decide +kernel) (Nat.le_of_ble_eq_true rfl) ?_
  intro z hl h0 hD hS hN C E
  subst hl; subst h0; subst hD; subst hS
  have C : hC z RX10 cX10_hash := C
  have hZ := E.2.2.2.1
  show hX z 0 0 (T, I, L, R, A) [(0, .ref (A 100)), (1, .int p), (2, .int q)] 0 []
  refine x_aload_n C dX10_hash_0 0 rfl rfl ?_
  refine x_iload_n C dX10_hash_1 1 rfl rfl ?_
  refine x_callV C (bd_X10_sideAt xO hsa ns hns hn4 p hb) mv_X10_sideAt ml_X10_97 (xO.1 100 _ rfl).1 rfl rfl rfl (Nat.le_of_ble_eq_true rfl) (hrm (rm := { frames := 0, cells := 0, slots := 0, locals := 0 }) hZ ⟨Nat.le_of_ble_eq_true rfl, Nat.le_of_ble_eq_true rfl⟩) (hcs hZ ⟨Nat.le_of_ble_eq_true rfl, Nat.le_of_ble_eq_true rfl⟩) dX10_hash_2 (fun v G' hp => ?_)
  obtain ⟨rfl, rfl⟩ := hp
  show hX z 0 0 (T, I, L, R, A) [(0, .ref (A 100)), (1, .int p), (2, .int q)] 5 [.null]
  refine x_astore_nN (lv' := [(3, .null), (0, .ref (A 100)), (1, .int p), (2, .int q)]) C dX10_hash_5 rfl (Nat.lt_of_lt_of_eq (by decide) hN.symm) rfl ?_
  refine x_aload_nN C dX10_hash_6 0 rfl rfl ?_
  refine x_ifnullN (tgt := 20) C dX10_hash_7 (by decide) ?_
  refine x_bipush (v := (-2)) C dX10_hash_20 (by decide +kernel) ?_
  exact x_iret C E (Nat.le_of_ble_eq_true rfl) (Nat.le_of_ble_eq_true rfl) dX10_hash_22 (⟨rfl, rfl⟩)

set_option maxHeartbeats 4000000 in
set_option maxRecDepth 100000 in
theorem bd_X10_about {l : Launch} {a0 : Nat} {D : va_G} {sa : Nat → Nat} {T : Nat → Option hKd} {I : Nat → Nat → Int32} {L : Nat → Nat → Int64} {R : Nat → Nat → Option Nat} {A : Nat → Nat} (xO : isX T R A a0) (hsa : ∀ k, k < 5 → sa k = A (90 + k)) (ns : Nat) (hns : I 100 8 = nI ns) (hn4 : ns ≤ 4) (p : Int32) (hb : p < 0 ∨ nI ns ≤ p) (q : Int32) : hM l a0 D sa yX10_about cX10_about 4 (some .int) { frames := 1, cells := 0, slots := 0, locals := 21 } [.ref (A 100), .int p, .int q] (T, I, L, R, A) (fun r G' => r = some (.int (-2)) ∧ G' = (T, I, L, R, A)) := by
  refine hM.of (by decide +kernel) (Nat.le_of_ble_eq_true rfl) ?_
  intro z hl h0 hD hS hN C E
  subst hl; subst h0; subst hD; subst hS
  have C : hC z RX10 cX10_about := C
  have hZ := E.2.2.2.1
  show hX z 0 0 (T, I, L, R, A) [(0, .ref (A 100)), (1, .int p), (2, .int q)] 0 []
  refine x_aload_n C dX10_about_0 0 rfl rfl ?_
  refine x_iload_n C dX10_about_1 1 rfl rfl ?_
  refine x_callV C (bd_X10_sideAt xO hsa ns hns hn4 p hb) mv_X10_sideAt ml_X10_97 (xO.1 100 _ rfl).1 rfl rfl rfl (Nat.le_of_ble_eq_true rfl) (hrm (rm := { frames := 0, cells := 0, slots := 0, locals := 0 }) hZ ⟨Nat.le_of_ble_eq_true rfl, Nat.le_of_ble_eq_true rfl⟩) (hcs hZ ⟨Nat.le_of_ble_eq_true rfl, Nat.le_of_ble_eq_true rfl⟩) dX10_about_2 (fun v G' hp => ?_)
  obtain ⟨rfl, rfl⟩ := hp
  show hX z 0 0 (T, I, L, R, A) [(0, .ref (A 100)), (1, .int p), (2, .int q)] 5 [.null]
  refine x_astore_nN (lv' := [(3, .null), (0, .ref (A 100)), (1, .int p), (2, .int q)]) C dX10_about_5 rfl (Nat.lt_of_lt_of_eq (by decide) hN.symm) rfl ?_
  refine x_aload_nN C dX10_about_6 0 rfl rfl ?_
  refine x_ifnonnullN C dX10_about_7 ?_
  refine x_bipush (v := (-2)) C dX10_about_10 (by decide +kernel) ?_
  refine x_goto (tgt := 20) C dX10_about_12 (by decide) ?_
  exact x_iret C E (Nat.le_of_ble_eq_true rfl) (Nat.le_of_ble_eq_true rfl) dX10_about_20 (⟨rfl, rfl⟩)

set_option maxHeartbeats 4000000 in
set_option maxRecDepth 100000 in
theorem ok_X10_message {l : Launch} {a0 : Nat} {D : va_G} {sa : Nat → Nat} {T : Nat → Option hKd} {I : Nat → Nat → Int32} {L : Nat → Nat → Int64} {R : Nat → Nat → Option Nat} {A : Nat → Nat} (xO : isX T R A a0) (hsa : ∀ k, k < 5 → sa k = A (90 + k)) (np : Nat) (hnp : I 100 7 = nI np) (hn8 : np ≤ 8) (k : Nat) (hk : k < np) (P : Nat) (hP : isPt T R A a0 P) (kn : Nat → Bool) (ms : Nat) (sz : Nat → Nat) (tk : Nat → Nat → Nat) (hs : Bool) (hI : ptI I P kn ms sz tk hs) (hRk : R 101 k = some P)  : hM l a0 D sa yX10_message cX10_message 3 (some .int) { frames := 1, cells := 0, slots := 0, locals := 21 } [.ref (A 100), .int (nI k)] (T, I, L, R, A) (fun r G' => (hs = true ∧ r = some (.int (-3)) ∧ G' = (T, I, L, R, A)) ∨ (hs = false ∧ 6 ≤ ms ∧ r = some (.int (-4)) ∧ G' = (T, I, L, R, A)) ∨ (hs = false ∧ ms < 6 ∧ r = some (.int (nI (ms + 1))) ∧ ∃ I', G' = (T, I', L, R, A) ∧ ptI I' P kn (ms + 1) sz tk hs ∧ fx [P] I I')) := by
  refine hM.of (by decide +kernel) (Nat.le_of_ble_eq_true rfl) ?_
  intro z hl h0 hD hS hN C E
  subst hl; subst h0; subst hD; subst hS
  have C : hC z RX10 cX10_message := C
  have hZ := E.2.2.2.1
  show hX z 0 0 (T, I, L, R, A) [(0, .ref (A 100)), (1, .int (nI k))] 0 []
  refine x_aload_n C dX10_message_0 0 rfl rfl ?_
  refine x_iload_n C dX10_message_1 1 rfl rfl ?_
  refine x_callV C (ok_X10_patternAt xO hsa np hnp hn8 k P hk hRk) mv_X10_patternAt ml_X10_57 (xO.1 100 _ rfl).1 rfl rfl rfl (Nat.le_of_ble_eq_true rfl) (hrm (rm := { frames := 0, cells := 0, slots := 0, locals := 0 }) hZ ⟨Nat.le_of_ble_eq_true rfl, Nat.le_of_ble_eq_true rfl⟩) (hcs hZ ⟨Nat.le_of_ble_eq_true rfl, Nat.le_of_ble_eq_true rfl⟩) dX10_message_2 (fun v G' hp => ?_)
  obtain ⟨rfl, rfl⟩ := hp
  show hX z 0 0 (T, I, L, R, A) [(0, .ref (A 100)), (1, .int (nI k))] 5 [.ref (A P)]
  refine x_astore_n (lv' := [(2, .ref (A P)), (0, .ref (A 100)), (1, .int (nI k))]) C dX10_message_5 rfl (Nat.lt_of_lt_of_eq (by decide) hN.symm) rfl ?_
  refine x_aload_n C dX10_message_6 0 rfl rfl ?_
  refine x_ifnonnull (tgt := 13) C dX10_message_7 (by decide) ?_
  refine x_aload_n C dX10_message_13 0 rfl rfl ?_
  refine x_getiN C fl_X10_61 hP.1.1 rfl dX10_message_14 ?_
  refine x_eqi (y := bI hs) hI.1.2.2.2 ?_
  refine x_if_eq (tgt := 25) C dX10_message_17 (by decide) (fun c17 => ?_) (fun c17 => ?_)
  · refine x_aload_n C dX10_message_25 0 rfl rfl ?_
    refine x_callV C (ok_X3_addMessage P hP kn ms sz tk hs hI) mv_X3_addMessage ml_X10_65 hP.1.1 rfl rfl rfl (Nat.le_of_ble_eq_true rfl) (hrm (rm := { frames := 0, cells := 0, slots := 0, locals := 0 }) hZ ⟨Nat.le_of_ble_eq_true rfl, Nat.le_of_ble_eq_true rfl⟩) (hcs hZ ⟨Nat.le_of_ble_eq_true rfl, Nat.le_of_ble_eq_true rfl⟩) dX10_message_26 (fun v G' hp => ?_)
    rcases hp with ⟨h6, rfl, rfl⟩ | ⟨h6, rfl, K, rfl, k1, k2⟩
    · show hX z 0 0 (T, I, L, R, A) [(2, .ref (A P)), (0, .ref (A 100)), (1, .int (nI k))] 29 [.int (-4)]
      exact x_iret C E (Nat.le_of_ble_eq_true rfl) (Nat.le_of_ble_eq_true rfl) dX10_message_29 (Or.inr (Or.inl ⟨bI_F c17, h6, rfl, rfl⟩))
    · show hX z 0 0 (T, K, L, R, A) [(2, .ref (A P)), (0, .ref (A 100)), (1, .int (nI k))] 29 [.int (nI (ms + 1))]
      exact x_iret C E (Nat.le_of_ble_eq_true rfl) (Nat.le_of_ble_eq_true rfl) dX10_message_29 (Or.inr (Or.inr ⟨bI_F c17, h6, rfl, K, rfl, k1, k2⟩))
  · refine x_bipush (v := (-3)) C dX10_message_20 (by decide +kernel) ?_
    refine x_goto (tgt := 29) C dX10_message_22 (by decide) ?_
    exact x_iret C E (Nat.le_of_ble_eq_true rfl) (Nat.le_of_ble_eq_true rfl) dX10_message_29 (Or.inl ⟨bI_T c17, rfl, rfl⟩)

set_option maxHeartbeats 4000000 in
set_option maxRecDepth 100000 in
theorem ok_X10_token {l : Launch} {a0 : Nat} {D : va_G} {sa : Nat → Nat} {T : Nat → Option hKd} {I : Nat → Nat → Int32} {L : Nat → Nat → Int64} {R : Nat → Nat → Option Nat} {A : Nat → Nat} (xO : isX T R A a0) (hsa : ∀ k, k < 5 → sa k = A (90 + k)) (np : Nat) (hnp : I 100 7 = nI np) (hn8 : np ≤ 8) (k : Nat) (hk : k < np) (P : Nat) (hP : isPt T R A a0 P) (kn : Nat → Bool) (ms : Nat) (sz : Nat → Nat) (tk : Nat → Nat → Nat) (hs : Bool) (hI : ptI I P kn ms sz tk hs) (hRk : R 101 k = some P) (t : Int32) : hM l a0 D sa yX10_token cX10_token 4 (some .int) { frames := 1, cells := 0, slots := 0, locals := 22 } [.ref (A 100), .int (nI k), .int t] (T, I, L, R, A) (fun r G' => ((t < 0 ∨ nI 5 < t) ∧ r = some (.int (-2)) ∧ G' = (T, I, L, R, A)) ∨ ∃ v, v ≤ 5 ∧ t = nI v ∧ ((hs = true ∧ r = some (.int (-3)) ∧ G' = (T, I, L, R, A)) ∨ (hs = false ∧ ms = 0 ∧ r = some (.int (-3)) ∧ G' = (T, I, L, R, A)) ∨ (hs = false ∧ 0 < ms ∧ 5 ≤ sz (ms - 1) ∧ r = some (.int (-4)) ∧ G' = (T, I, L, R, A)) ∨ (hs = false ∧ 0 < ms ∧ sz (ms - 1) < 5 ∧ r = some (.int (nI (sz (ms - 1) + 1))) ∧ ∃ I', G' = (T, I', L, R, A) ∧ ptI I' P kn ms (upN sz (ms - 1) (sz (ms - 1) + 1)) (upN tk (ms - 1) (upN (tk (ms - 1)) (sz (ms - 1)) v)) hs ∧ fx [P + 8, P + 2 + (ms - 1)] I I'))) := by
  refine hM.of (by decide +kernel) (Nat.le_of_ble_eq_true rfl) ?_
  intro z hl h0 hD hS hN C E
  subst hl; subst h0; subst hD; subst hS
  have C : hC z RX10 cX10_token := C
  have hZ := E.2.2.2.1
  show hX z 0 0 (T, I, L, R, A) [(0, .ref (A 100)), (1, .int (nI k)), (2, .int t)] 0 []
  refine x_aload_n C dX10_token_0 0 rfl rfl ?_
  refine x_iload_n C dX10_token_1 1 rfl rfl ?_
  refine x_callV C (ok_X10_patternAt xO hsa np hnp hn8 k P hk hRk) mv_X10_patternAt ml_X10_57 (xO.1 100 _ rfl).1 rfl rfl rfl (Nat.le_of_ble_eq_true rfl) (hrm (rm := { frames := 0, cells := 0, slots := 0, locals := 0 }) hZ ⟨Nat.le_of_ble_eq_true rfl, Nat.le_of_ble_eq_true rfl⟩) (hcs hZ ⟨Nat.le_of_ble_eq_true rfl, Nat.le_of_ble_eq_true rfl⟩) dX10_token_2 (fun v G' hp => ?_)
  obtain ⟨rfl, rfl⟩ := hp
  show hX z 0 0 (T, I, L, R, A) [(0, .ref (A 100)), (1, .int (nI k)), (2, .int t)] 5 [.ref (A P)]
  refine x_astore_n (lv' := [(3, .ref (A P)), (0, .ref (A 100)), (1, .int (nI k)), (2, .int t)]) C dX10_token_5 rfl (Nat.lt_of_lt_of_eq (by decide) hN.symm) rfl ?_
  refine x_aload_n C dX10_token_6 0 rfl rfl ?_
  refine x_ifnull C dX10_token_7 ?_
  refine x_iload_n C dX10_token_10 3 rfl rfl ?_
  refine x_if_lt (tgt := 19) C dX10_token_11 (by decide) (fun c11 => ?_) (fun c11 => ?_)
  · refine x_bipush (v := (-2)) C dX10_token_19 (by decide +kernel) ?_
    exact x_iret C E (Nat.le_of_ble_eq_true rfl) (Nat.le_of_ble_eq_true rfl) dX10_token_21 (Or.inl ⟨by first | exact Or.inl c11 | exact Or.inr (Int32.not_le.mp c16), rfl, rfl⟩)
  · refine x_iload_n C dX10_token_14 3 rfl rfl ?_
    refine x_iconst (v := nI 5) C dX10_token_15 (by decide +kernel) ?_
    refine x_icmp_le (tgt := 22) C dX10_token_16 (by decide) (fun c16 => ?_) (fun c16 => ?_)
    · obtain ⟨v, hv5, rfl⟩ := tok_of c11 c16
      refine x_aload_n C dX10_token_22 0 rfl rfl ?_
      refine x_getiN C fl_X10_61 hP.1.1 rfl dX10_token_23 ?_
      refine x_eqi (y := bI hs) hI.1.2.2.2 ?_
      refine x_if_eq (tgt := 34) C dX10_token_26 (by decide) (fun c26 => ?_) (fun c26 => ?_)
      · refine x_aload_n C dX10_token_34 0 rfl rfl ?_
        refine x_iload_n C dX10_token_35 3 rfl rfl ?_
        refine x_callV C (ok_X3_addToken P hP kn ms sz tk hs hI v hv5) mv_X3_addToken ml_X10_69 hP.1.1 rfl rfl rfl (Nat.le_of_ble_eq_true rfl) (hrm (rm := { frames := 0, cells := 0, slots := 0, locals := 0 }) hZ ⟨Nat.le_of_ble_eq_true rfl, Nat.le_of_ble_eq_true rfl⟩) (hcs hZ ⟨Nat.le_of_ble_eq_true rfl, Nat.le_of_ble_eq_true rfl⟩) dX10_token_36 (fun v G' hp => ?_)
        rcases hp with ⟨h6, rfl, rfl⟩ | ⟨h6, h7, rfl, rfl⟩ | ⟨h6, h7, rfl, K, rfl, k1, k2⟩
        · show hX z 0 0 (T, I, L, R, A) [(3, .ref (A P)), (0, .ref (A 100)), (1, .int (nI k)), (2, .int (nI v))] 39 [.int (-3)]
          exact x_iret C E (Nat.le_of_ble_eq_true rfl) (Nat.le_of_ble_eq_true rfl) dX10_token_39 ((Or.inr ⟨v, hv5, rfl, by first | exact Or.inl ⟨bI_T c26, rfl, rfl⟩ | exact Or.inr (Or.inl ⟨bI_F c26, h6, rfl, rfl⟩)⟩))
        · show hX z 0 0 (T, I, L, R, A) [(3, .ref (A P)), (0, .ref (A 100)), (1, .int (nI k)), (2, .int (nI v))] 39 [.int (-4)]
          exact x_iret C E (Nat.le_of_ble_eq_true rfl) (Nat.le_of_ble_eq_true rfl) dX10_token_39 (Or.inr ⟨v, hv5, rfl, Or.inr (Or.inr (Or.inl ⟨bI_F c26, h6, h7, rfl, rfl⟩))⟩)
        · show hX z 0 0 (T, K, L, R, A) [(3, .ref (A P)), (0, .ref (A 100)), (1, .int (nI k)), (2, .int (nI v))] 39 [.int (nI (sz (ms - 1) + 1))]
          exact x_iret C E (Nat.le_of_ble_eq_true rfl) (Nat.le_of_ble_eq_true rfl) dX10_token_39 (Or.inr ⟨v, hv5, rfl, Or.inr (Or.inr (Or.inr ⟨bI_F c26, h6, h7, rfl, K, rfl, k1, k2⟩))⟩)
      · refine x_bipush (v := (-3)) C dX10_token_29 (by decide +kernel) ?_
        refine x_goto (tgt := 39) C dX10_token_31 (by decide) ?_
        exact x_iret C E (Nat.le_of_ble_eq_true rfl) (Nat.le_of_ble_eq_true rfl) dX10_token_39 ((Or.inr ⟨v, hv5, rfl, by first | exact Or.inl ⟨bI_T c26, rfl, rfl⟩ | exact Or.inr (Or.inl ⟨bI_F c26, h6, rfl, rfl⟩)⟩))
    · refine x_bipush (v := (-2)) C dX10_token_19 (by decide +kernel) ?_
      exact x_iret C E (Nat.le_of_ble_eq_true rfl) (Nat.le_of_ble_eq_true rfl) dX10_token_21 (Or.inl ⟨by first | exact Or.inl c11 | exact Or.inr (Int32.not_le.mp c16), rfl, rfl⟩)

set_option maxHeartbeats 4000000 in
set_option maxRecDepth 100000 in
theorem ok_X10_fault {l : Launch} {a0 : Nat} {D : va_G} {sa : Nat → Nat} {T : Nat → Option hKd} {I : Nat → Nat → Int32} {L : Nat → Nat → Int64} {R : Nat → Nat → Option Nat} {A : Nat → Nat} (xO : isX T R A a0) (hsa : ∀ k, k < 5 → sa k = A (90 + k)) (np : Nat) (hnp : I 100 7 = nI np) (hn8 : np ≤ 8) (k : Nat) (hk : k < np) (P : Nat) (hP : isPt T R A a0 P) (kn : Nat → Bool) (ms : Nat) (sz : Nat → Nat) (tk : Nat → Nat → Nat) (hs : Bool) (hI : ptI I P kn ms sz tk hs) (hRk : R 101 k = some P) (hst : stI I) : hM l a0 D sa yX10_fault cX10_fault 3 (some .int) { frames := 3, cells := 0, slots := 0, locals := 71 } [.ref (A 100), .int (nI k)] (T, I, L, R, A) (fun r G' => (∃ f, r = some (.int (nI f)) ∧ isF kn ms sz tk f ∧ f ≤ 5) ∧ G' = (T, I, L, R, A)) := by
  refine hM.of (by decide +kernel) (Nat.le_of_ble_eq_true rfl) ?_
  intro z hl h0 hD hS hN C E
  subst hl; subst h0; subst hD; subst hS
  have C : hC z RX10 cX10_fault := C
  have hZ := E.2.2.2.1
  show hX z 0 0 (T, I, L, R, A) [(0, .ref (A 100)), (1, .int (nI k))] 0 []
  refine x_aload_n C dX10_fault_0 0 rfl rfl ?_
  refine x_iload_n C dX10_fault_1 1 rfl rfl ?_
  refine x_callV C (ok_X10_patternAt xO hsa np hnp hn8 k P hk hRk) mv_X10_patternAt ml_X10_57 (xO.1 100 _ rfl).1 rfl rfl rfl (Nat.le_of_ble_eq_true rfl) (hrm (rm := { frames := 0, cells := 0, slots := 0, locals := 0 }) hZ ⟨Nat.le_of_ble_eq_true rfl, Nat.le_of_ble_eq_true rfl⟩) (hcs hZ ⟨Nat.le_of_ble_eq_true rfl, Nat.le_of_ble_eq_true rfl⟩) dX10_fault_2 (fun v G' hp => ?_)
  obtain ⟨rfl, rfl⟩ := hp
  show hX z 0 0 (T, I, L, R, A) [(0, .ref (A 100)), (1, .int (nI k))] 5 [.ref (A P)]
  refine x_astore_n (lv' := [(2, .ref (A P)), (0, .ref (A 100)), (1, .int (nI k))]) C dX10_fault_5 rfl (Nat.lt_of_lt_of_eq (by decide) hN.symm) rfl ?_
  refine x_aload_n C dX10_fault_6 0 rfl rfl ?_
  refine x_ifnonnull (tgt := 15) C dX10_fault_7 (by decide) ?_
  refine x_aload_n C dX10_fault_15 0 rfl rfl ?_
  refine x_callV C (ok_X3_findFault P hP kn ms sz tk hs hI hsa (xO.2.2 90 _ rfl) hst.2.2.2) mv_X3_findFault ml_X10_73 hP.1.1 rfl rfl rfl (Nat.le_of_ble_eq_true rfl) (hrm (rm := { frames := 0, cells := 0, slots := 0, locals := 0 }) hZ ⟨Nat.le_of_ble_eq_true rfl, Nat.le_of_ble_eq_true rfl⟩) (hcs hZ ⟨Nat.le_of_ble_eq_true rfl, Nat.le_of_ble_eq_true rfl⟩) dX10_fault_16 (fun v G' hp => ?_)
  obtain ⟨⟨f, rfl, hF, hf5⟩, rfl⟩ := hp
  show hX z 0 0 (T, I, L, R, A) [(2, .ref (A P)), (0, .ref (A 100)), (1, .int (nI k))] 19 [.int (nI f)]
  exact x_iret C E (Nat.le_of_ble_eq_true rfl) (Nat.le_of_ble_eq_true rfl) dX10_fault_19 (⟨⟨f, rfl, hF, hf5⟩, rfl⟩)

set_option maxHeartbeats 4000000 in
set_option maxRecDepth 100000 in
theorem ok_X10_told {l : Launch} {a0 : Nat} {D : va_G} {sa : Nat → Nat} {T : Nat → Option hKd} {I : Nat → Nat → Int32} {L : Nat → Nat → Int64} {R : Nat → Nat → Option Nat} {A : Nat → Nat} (xO : isX T R A a0) (hsa : ∀ k, k < 5 → sa k = A (90 + k)) (np : Nat) (hnp : I 100 7 = nI np) (hn8 : np ≤ 8) (k : Nat) (hk : k < np) (P : Nat) (hP : isPt T R A a0 P) (kn : Nat → Bool) (ms : Nat) (sz : Nat → Nat) (tk : Nat → Nat → Nat) (hs : Bool) (hI : ptI I P kn ms sz tk hs) (hRk : R 101 k = some P) (t : Int32) : hM l a0 D sa yX10_told cX10_told 4 (some .int) { frames := 3, cells := 0, slots := 0, locals := 66 } [.ref (A 100), .int (nI k), .int t] (T, I, L, R, A) (fun r G' => (((t < 0 ∨ nI 38 < t) ∧ r = some (.int (-2))) ∨ ∃ v, v ≤ 38 ∧ t = nI v ∧ r = some (.int (telF kn ms sz tk v))) ∧ G' = (T, I, L, R, A)) := by
  refine hM.of (by decide +kernel) (Nat.le_of_ble_eq_true rfl) ?_
  intro z hl h0 hD hS hN C E
  subst hl; subst h0; subst hD; subst hS
  have C : hC z RX10 cX10_told := C
  have hZ := E.2.2.2.1
  show hX z 0 0 (T, I, L, R, A) [(0, .ref (A 100)), (1, .int (nI k)), (2, .int t)] 0 []
  refine x_aload_n C dX10_told_0 0 rfl rfl ?_
  refine x_iload_n C dX10_told_1 1 rfl rfl ?_
  refine x_callV C (ok_X10_patternAt xO hsa np hnp hn8 k P hk hRk) mv_X10_patternAt ml_X10_57 (xO.1 100 _ rfl).1 rfl rfl rfl (Nat.le_of_ble_eq_true rfl) (hrm (rm := { frames := 0, cells := 0, slots := 0, locals := 0 }) hZ ⟨Nat.le_of_ble_eq_true rfl, Nat.le_of_ble_eq_true rfl⟩) (hcs hZ ⟨Nat.le_of_ble_eq_true rfl, Nat.le_of_ble_eq_true rfl⟩) dX10_told_2 (fun v G' hp => ?_)
  obtain ⟨rfl, rfl⟩ := hp
  show hX z 0 0 (T, I, L, R, A) [(0, .ref (A 100)), (1, .int (nI k)), (2, .int t)] 5 [.ref (A P)]
  refine x_astore_n (lv' := [(3, .ref (A P)), (0, .ref (A 100)), (1, .int (nI k)), (2, .int t)]) C dX10_told_5 rfl (Nat.lt_of_lt_of_eq (by decide) hN.symm) rfl ?_
  refine x_aload_n C dX10_told_6 0 rfl rfl ?_
  refine x_ifnull C dX10_told_7 ?_
  refine x_iload_n C dX10_told_10 3 rfl rfl ?_
  refine x_if_lt (tgt := 20) C dX10_told_11 (by decide) (fun c11 => ?_) (fun c11 => ?_)
  · refine x_bipush (v := (-2)) C dX10_told_20 (by decide +kernel) ?_
    exact x_iret C E (Nat.le_of_ble_eq_true rfl) (Nat.le_of_ble_eq_true rfl) dX10_told_22 (⟨Or.inl ⟨by first | exact Or.inl c11 | exact Or.inr (Int32.not_le.mp c17), rfl⟩, rfl⟩)
  · refine x_iload_n C dX10_told_14 3 rfl rfl ?_
    refine x_bipush (v := nI 38) C dX10_told_15 (by decide +kernel) ?_
    refine x_icmp_le (tgt := 23) C dX10_told_17 (by decide) (fun c17 => ?_) (fun c17 => ?_)
    · obtain ⟨v, hv, rfl⟩ := in_of (n := 38) ⟨by rw [nI_0]; exact Int32.not_lt.mp c11, c17⟩ (by decide)
      refine x_aload_n C dX10_told_23 0 rfl rfl ?_
      refine x_iload_n C dX10_told_24 3 rfl rfl ?_
      refine x_callV C (ok_X3_tell P hP kn ms sz tk hs hI v hv) mv_X3_tell ml_X10_76 hP.1.1 rfl rfl rfl (Nat.le_of_ble_eq_true rfl) (hrm (rm := { frames := 0, cells := 0, slots := 0, locals := 0 }) hZ ⟨Nat.le_of_ble_eq_true rfl, Nat.le_of_ble_eq_true rfl⟩) (hcs hZ ⟨Nat.le_of_ble_eq_true rfl, Nat.le_of_ble_eq_true rfl⟩) dX10_told_25 (fun v G' hp => ?_)
      obtain ⟨rfl, rfl⟩ := hp
      show hX z 0 0 (T, I, L, R, A) [(3, .ref (A P)), (0, .ref (A 100)), (1, .int (nI k)), (2, .int (nI v))] 28 [.int (telF kn ms sz tk v)]
      exact x_iret C E (Nat.le_of_ble_eq_true rfl) (Nat.le_of_ble_eq_true rfl) dX10_told_28 (⟨Or.inr ⟨v, hv, rfl, rfl⟩, rfl⟩)
    · refine x_bipush (v := (-2)) C dX10_told_20 (by decide +kernel) ?_
      exact x_iret C E (Nat.le_of_ble_eq_true rfl) (Nat.le_of_ble_eq_true rfl) dX10_told_22 (⟨Or.inl ⟨by first | exact Or.inl c11 | exact Or.inr (Int32.not_le.mp c17), rfl⟩, rfl⟩)

