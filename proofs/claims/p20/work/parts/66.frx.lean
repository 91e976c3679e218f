/-! ===== on a fresh object ===== -/
section HXNul
variable {z : hZ} {own : String} {cc : ByteArray} {cells slots pc : Nat} {G : hG} {lv lv' : List (Nat × Value)} {rest : List Value}
theorem x_aload_nN (C : hC z own cc) {k0 : Fin 4} {i : Nat} (d : decode cc pc = .ok (.aload_n k0, 1)) (n : Nat) (hi : (k0 : Nat) = i) (hl : lv[n]? = some (i, .null)) (k : hX z cells slots G lv (pc + 1) (.null :: rest)) : hX z cells slots G lv pc rest := fun H locs ls h1 h2 h3 => lv_aload_nN C.1 C.2.1 d hi (lv_at h3 n hl) (k H locs ls h1 h2 h3)
theorem x_aloadN (C : hC z own cc) {i : Nat} (d : decode cc pc = .ok (.aload i, 2)) (n : Nat) (hl : lv[n]? = some (i, .null)) (k : hX z cells slots G lv (pc + 2) (.null :: rest)) : hX z cells slots G lv pc rest := fun H locs ls h1 h2 h3 => lv_aloadN C.1 C.2.1 d (lv_at h3 n hl) (k H locs ls h1 h2 h3)
theorem x_astore_nN (C : hC z own cc) {k0 : Fin 4} {i : Nat} (d : decode cc pc = .ok (.astore_n k0, 1)) (hi : (k0 : Nat) = i) (hn : i < zn z) (hl : (i, Value.null) :: lv.filter (fun q => !(q.1 == i) && !(q.1 + 1 == i && q.2.category == 2)) = lv') (k : hX z cells slots G lv' (pc + 1) rest) : hX z cells slots G lv pc (.null :: rest) := fun H locs ls h1 h2 h3 => lv_astore_nN C.1 C.2.1 d hi h3 hn hl (fun ls h3 => k H locs ls h1 h2 h3)
theorem x_astoreN (C : hC z own cc) {i : Nat} (d : decode cc pc = .ok (.astore i, 2)) (hn : i < zn z) (hl : (i, Value.null) :: lv.filter (fun q => !(q.1 == i) && !(q.1 + 1 == i && q.2.category == 2)) = lv') (k : hX z cells slots G lv' (pc + 2) rest) : hX z cells slots G lv pc (.null :: rest) := fun H locs ls h1 h2 h3 => lv_astoreN C.1 C.2.1 d h3 hn hl (fun ls h3 => k H locs ls h1 h2 h3)
end HXNul
theorem nI_tI {k : Nat} (hk : k < 2 ^ 31) : (nI k).toInt = (k : Int) := by
  show (Int32.ofNat k).toInt = _
  exact Int32.toInt_ofNat_of_lt hk
theorem sw_nI {x : Int32} {k : Nat} (hk : k < 2 ^ 31) (h : x.toInt = (k : Int)) : x = nI k := by
  apply Int32.toInt_inj.mp
  rw [h]
  rw [nI_tI hk]
theorem sw_out2 {x : Int32} (h0 : ¬ x = nI 0) (h1 : ¬ x = nI 1) (h2 : ¬ x = nI 2) : x.toInt < 0 ∨ 2 < x.toInt := by
  by_cases g : x.toInt < 0
  · exact Or.inl g
  · refine Or.inr (Int.not_le.mp fun g2 => ?_)
    rcases (show x.toInt = ((0 : Nat) : Int) ∨ x.toInt = ((1 : Nat) : Int) ∨ x.toInt = ((2 : Nat) : Int) by omega) with e | e | e
    · exact h0 (sw_nI (by decide) e)
    · exact h1 (sw_nI (by decide) e)
    · exact h2 (sw_nI (by decide) e)
theorem sw_out4 {x : Int32} (h0 : ¬ x = nI 0) (h1 : ¬ x = nI 1) (h2 : ¬ x = nI 2) (h3 : ¬ x = nI 3) (h4 : ¬ x = nI 4) : x.toInt < 0 ∨ 4 < x.toInt := by
  by_cases g : x.toInt < 0
  · exact Or.inl g
  · refine Or.inr (Int.not_le.mp fun g2 => ?_)
    rcases (show x.toInt = ((0 : Nat) : Int) ∨ x.toInt = ((1 : Nat) : Int) ∨ x.toInt = ((2 : Nat) : Int) ∨ x.toInt = ((3 : Nat) : Int) ∨ x.toInt = ((4 : Nat) : Int) by omega) with e | e | e | e | e
    · exact h0 (sw_nI (by decide) e)
    · exact h1 (sw_nI (by decide) e)
    · exact h2 (sw_nI (by decide) e)
    · exact h3 (sw_nI (by decide) e)
    · exact h4 (sw_nI (by decide) e)
theorem nI_ofx {x : Int32} {n : Nat} (h0 : ¬ x < 0) (h1 : x < nI n) (hn : n < 2 ^ 31) : ∃ k, k < n ∧ x = nI k := by
  have g0 : 0 ≤ x.toInt := by
    have := Int32.not_lt.mp h0
    exact Int32.le_iff_toInt_le.mp this
  have g1 : x.toInt < (nI n).toInt := Int32.lt_iff_toInt_lt.mp h1
  rw [nI_tI hn] at g1
  exact ⟨x.toInt.toNat, by omega, sw_nI (by omega) (by omega)⟩
def fCnt (w : Int32) : Int32 := if w = nI 0 ∨ w = nI 1 ∨ w = nI 2 ∨ w = nI 3 ∨ w = nI 4 then nI 0 else -2
def fByt (w : Int32) : Int32 := if w = nI 0 ∨ w = nI 1 ∨ w = nI 2 then -1 else -2
def fCut (n : Int32) : Int32 := if n = nI 0 then nI 0 else -2
/-- a fresh object of the class -/
def frX (I : Nat → Nat → Int32) : Prop := I 100 7 = nI 0 ∧ I 100 8 = nI 0 ∧ I 103 1 = nI 0 ∧ I 105 1 = nI 0 ∧ I 107 1 = nI 0
/-- a fresh object of the model -/
def frM (I : Nat → Nat → Int32) : Prop := I 63 24 = nI 0 ∧ I 63 33 = nI 0 ∧ I 63 56 = nI 0 ∧ I 63 58 = nI 0 ∧ I 63 60 = nI 0
set_option maxHeartbeats 4000000 in
set_option maxRecDepth 100000 in
theorem of_X10_patternAt {l : Launch} {a0 : Nat} {D : va_G} {sa : Nat → Nat} {T : Nat → Option hKd} {I : Nat → Nat → Int32} {L : Nat → Nat → Int64} {R : Nat → Nat → Option Nat} {A : Nat → Nat} (xO : isX T R A a0) (hsa : ∀ k, k < 5 → sa k = A (90 + k)) (f : frX I) (p : Int32) : hM l a0 D sa yX10_patternAt cX10_patternAt 2 (some (.object "StepShake$Pattern")) { frames := 0, cells := 0, slots := 0, locals := 0 } [.ref (A 100), .int p] (T, I, L, R, A) (fun r G' => r = some .null ∧ G' = (T, I, L, R, A)) := by
  refine hM.of (by decide +kernel) (Nat.le_of_ble_eq_true rfl) ?_
  intro z hl h0 hD hS hN C E
  subst hl; subst h0; subst hD; subst hS
  have C : hC z RX10 cX10_patternAt := C
  have hZ := E.2.2.2.1
  show hX z 0 0 (T, I, L, R, A) [(0, .ref (A 100)), (1, .int p)] 0 []
  refine x_iload_n C dX10_patternAt_0 1 rfl rfl ?_
  refine x_if_lt (tgt := 21) C dX10_patternAt_1 (by decide) (fun c1 => ?_) (fun c1 => ?_)
  · refine x_aconst C dX10_patternAt_21 ?_
    exact x_aret C E (Or.inl rfl) (Nat.le_of_ble_eq_true rfl) (Nat.le_of_ble_eq_true rfl) dX10_patternAt_22 (⟨rfl, rfl⟩)
  · refine x_iload_n C dX10_patternAt_4 1 rfl rfl ?_
    refine x_aload_n C dX10_patternAt_5 0 rfl rfl ?_
    refine x_getiN C fl_X10_47 (xO.1 100 _ rfl).1 rfl dX10_patternAt_6 ?_
    refine x_eqi (y := nI 0) f.1 ?_
    refine x_icmp_ge (tgt := 21) C dX10_patternAt_9 (by decide) (fun c9 => ?_) (fun c9 => ?_)
    · refine x_aconst C dX10_patternAt_21 ?_
      exact x_aret C E (Or.inl rfl) (Nat.le_of_ble_eq_true rfl) (Nat.le_of_ble_eq_true rfl) dX10_patternAt_22 (⟨rfl, rfl⟩)
    · exact absurd (by rw [nI_0]; exact Int32.not_lt.mp c1) c9

set_option maxHeartbeats 4000000 in
set_option maxRecDepth 100000 in
theorem of_X10_sideAt {l : Launch} {a0 : Nat} {D : va_G} {sa : Nat → Nat} {T : Nat → Option hKd} {I : Nat → Nat → Int32} {L : Nat → Nat → Int64} {R : Nat → Nat → Option Nat} {A : Nat → Nat} (xO : isX T R A a0) (hsa : ∀ k, k < 5 → sa k = A (90 + k)) (f : frX I) (p : Int32) : hM l a0 D sa yX10_sideAt cX10_sideAt 2 (some (.object "StepShake$Side")) { frames := 0, cells := 0, slots := 0, locals := 0 } [.ref (A 100), .int p] (T, I, L, R, A) (fun r G' => r = some .null ∧ G' = (T, I, L, R, A)) := by
  refine hM.of (by decide +kernel) (Nat.le_of_ble_eq_true rfl) ?_
  intro z hl h0 hD hS hN C E
  subst hl; subst h0; subst hD; subst hS
  have C : hC z RX10 cX10_sideAt := C
  have hZ := E.2.2.2.1
  show hX z 0 0 (T, I, L, R, A) [(0, .ref (A 100)), (1, .int p)] 0 []
  refine x_iload_n C dX10_sideAt_0 1 rfl rfl ?_
  refine x_if_lt (tgt := 21) C dX10_sideAt_1 (by decide) (fun c1 => ?_) (fun c1 => ?_)
  · refine x_aconst C dX10_sideAt_21 ?_
    exact x_aret C E (Or.inl rfl) (Nat.le_of_ble_eq_true rfl) (Nat.le_of_ble_eq_true rfl) dX10_sideAt_22 (⟨rfl, rfl⟩)
  · refine x_iload_n C dX10_sideAt_4 1 rfl rfl ?_
    refine x_aload_n C dX10_sideAt_5 0 rfl rfl ?_
    refine x_getiN C fl_X10_51 (xO.1 100 _ rfl).1 rfl dX10_sideAt_6 ?_
    refine x_eqi (y := nI 0) f.2.1 ?_
    refine x_icmp_ge (tgt := 21) C dX10_sideAt_9 (by decide) (fun c9 => ?_) (fun c9 => ?_)
    · refine x_aconst C dX10_sideAt_21 ?_
      exact x_aret C E (Or.inl rfl) (Nat.le_of_ble_eq_true rfl) (Nat.le_of_ble_eq_true rfl) dX10_sideAt_22 (⟨rfl, rfl⟩)
    · exact absurd (by rw [nI_0]; exact Int32.not_lt.mp c1) c9

set_option maxHeartbeats 4000000 in
set_option maxRecDepth 100000 in
theorem of_X10_message {l : Launch} {a0 : Nat} {D : va_G} {sa : Nat → Nat} {T : Nat → Option hKd} {I : Nat → Nat → Int32} {L : Nat → Nat → Int64} {R : Nat → Nat → Option Nat} {A : Nat → Nat} (xO : isX T R A a0) (hsa : ∀ k, k < 5 → sa k = A (90 + k)) (f : frX I) (p : Int32) : hM l a0 D sa yX10_message cX10_message 3 (some .int) { frames := 1, cells := 0, slots := 0, locals := 21 } [.ref (A 100), .int p] (T, I, L, R, A) (fun r G' => r = some (.int (-2)) ∧ G' = (T, I, L, R, A)) := by
  refine hM.of (by decide +kernel) (Nat.le_of_ble_eq_true rfl) ?_
  intro z hl h0 hD hS hN C E
  subst hl; subst h0; subst hD; subst hS
  have C : hC z RX10 cX10_message := C
  have hZ := E.2.2.2.1
  show hX z 0 0 (T, I, L, R, A) [(0, .ref (A 100)), (1, .int p)] 0 []
  refine x_aload_n C dX10_message_0 0 rfl rfl ?_
  refine x_iload_n C dX10_message_1 1 rfl rfl ?_
  refine x_callV C (of_X10_patternAt xO hsa f p) mv_X10_patternAt ml_X10_57 (xO.1 100 _ rfl).1 rfl rfl rfl (Nat.le_of_ble_eq_true rfl) (hrm (rm := { frames := 0, cells := 0, slots := 0, locals := 0 }) hZ ⟨Nat.le_of_ble_eq_true rfl, Nat.le_of_ble_eq_true rfl⟩) (hcs hZ ⟨Nat.le_of_ble_eq_true rfl, Nat.le_of_ble_eq_true rfl⟩) dX10_message_2 (fun v G' hp => ?_)
  obtain ⟨rfl, rfl⟩ := hp
  show hX z 0 0 (T, I, L, R, A) [(0, .ref (A 100)), (1, .int p)] 5 [.null]
  refine x_astore_nN (lv' := [(2, .null), (0, .ref (A 100)), (1, .int p)]) C dX10_message_5 rfl (Nat.lt_of_lt_of_eq (by decide) hN.symm) rfl ?_
  refine x_aload_nN C dX10_message_6 0 rfl rfl ?_
  refine x_ifnonnullN C dX10_message_7 ?_
  refine x_bipush (v := (-2)) C dX10_message_10 (by decide +kernel) ?_
  exact x_iret C E (Nat.le_of_ble_eq_true rfl) (Nat.le_of_ble_eq_true rfl) dX10_message_12 (⟨rfl, rfl⟩)

set_option maxHeartbeats 4000000 in
set_option maxRecDepth 100000 in
theorem of_X10_token {l : Launch} {a0 : Nat} {D : va_G} {sa : Nat → Nat} {T : Nat → Option hKd} {I : Nat → Nat → Int32} {L : Nat → Nat → Int64} {R : Nat → Nat → Option Nat} {A : Nat → Nat} (xO : isX T R A a0) (hsa : ∀ k, k < 5 → sa k = A (90 + k)) (f : frX I) (p q : Int32) : hM l a0 D sa yX10_token cX10_token 4 (some .int) { frames := 1, cells := 0, slots := 0, locals := 21 } [.ref (A 100), .int p, .int q] (T, I, L, R, A) (fun r G' => r = some (.int (-2)) ∧ G' = (T, I, L, R, A)) := by
  refine hM.of (by decide +kernel) (Nat.le_of_ble_eq_true rfl) ?_
  intro z hl h0 hD hS hN C E
  subst hl; subst h0; subst hD; subst hS
  have C : hC z RX10 cX10_token := C
  have hZ := E.2.2.2.1
  show hX z 0 0 (T, I, L, R, A) [(0, .ref (A 100)), (1, .int p), (2, .int q)] 0 []
  refine x_aload_n C dX10_token_0 0 rfl rfl ?_
  refine x_iload_n C dX10_token_1 1 rfl rfl ?_
  refine x_callV C (of_X10_patternAt xO hsa f p) mv_X10_patternAt ml_X10_57 (xO.1 100 _ rfl).1 rfl rfl rfl (Nat.le_of_ble_eq_true rfl) (hrm (rm := { frames := 0, cells := 0, slots := 0, locals := 0 }) hZ ⟨Nat.le_of_ble_eq_true rfl, Nat.le_of_ble_eq_true rfl⟩) (hcs hZ ⟨Nat.le_of_ble_eq_true rfl, Nat.le_of_ble_eq_true rfl⟩) dX10_token_2 (fun v G' hp => ?_)
  obtain ⟨rfl, rfl⟩ := hp
  show hX z 0 0 (T, I, L, R, A) [(0, .ref (A 100)), (1, .int p), (2, .int q)] 5 [.null]
  refine x_astore_nN (lv' := [(3, .null), (0, .ref (A 100)), (1, .int p), (2, .int q)]) C dX10_token_5 rfl (Nat.lt_of_lt_of_eq (by decide) hN.symm) rfl ?_
  refine x_aload_nN C dX10_token_6 0 rfl rfl ?_
  refine x_ifnullN (tgt := 19) C dX10_token_7 (by decide) ?_
  refine x_bipush (v := (-2)) C dX10_token_19 (by decide +kernel) ?_
  exact x_iret C E (Nat.le_of_ble_eq_true rfl) (Nat.le_of_ble_eq_true rfl) dX10_token_21 (⟨rfl, rfl⟩)

set_option maxHeartbeats 4000000 in
set_option maxRecDepth 100000 in
theorem of_X10_fault {l : Launch} {a0 : Nat} {D : va_G} {sa : Nat → Nat} {T : Nat → Option hKd} {I : Nat → Nat → Int32} {L : Nat → Nat → Int64} {R : Nat → Nat → Option Nat} {A : Nat → Nat} (xO : isX T R A a0) (hsa : ∀ k, k < 5 → sa k = A (90 + k)) (f : frX I) (p : Int32) : hM l a0 D sa yX10_fault cX10_fault 3 (some .int) { frames := 1, cells := 0, slots := 0, locals := 21 } [.ref (A 100), .int p] (T, I, L, R, A) (fun r G' => r = some (.int (-2)) ∧ G' = (T, I, L, R, A)) := by
  refine hM.of (by decide +kernel) (Nat.le_of_ble_eq_true rfl) ?_
  intro z hl h0 hD hS hN C E
  subst hl; subst h0; subst hD; subst hS
  have C : hC z RX10 cX10_fault := C
  have hZ := E.2.2.2.1
  show hX z 0 0 (T, I, L, R, A) [(0, .ref (A 100)), (1, .int p)] 0 []
  refine x_aload_n C dX10_fault_0 0 rfl rfl ?_
  refine x_iload_n C dX10_fault_1 1 rfl rfl ?_
  refine x_callV C (of_X10_patternAt xO hsa f p) mv_X10_patternAt ml_X10_57 (xO.1 100 _ rfl).1 rfl rfl rfl (Nat.le_of_ble_eq_true rfl) (hrm (rm := { frames := 0, cells := 0, slots := 0, locals := 0 }) hZ ⟨Nat.le_of_ble_eq_true rfl, Nat.le_of_ble_eq_true rfl⟩) (hcs hZ ⟨Nat.le_of_ble_eq_true rfl, Nat.le_of_ble_eq_true rfl⟩) dX10_fault_2 (fun v G' hp => ?_)
  obtain ⟨rfl, rfl⟩ := hp
  show hX z 0 0 (T, I, L, R, A) [(0, .ref (A 100)), (1, .int p)] 5 [.null]
  refine x_astore_nN (lv' := [(2, .null), (0, .ref (A 100)), (1, .int p)]) C dX10_fault_5 rfl (Nat.lt_of_lt_of_eq (by decide) hN.symm) rfl ?_
  refine x_aload_nN C dX10_fault_6 0 rfl rfl ?_
  refine x_ifnonnullN C dX10_fault_7 ?_
  refine x_bipush (v := (-2)) C dX10_fault_10 (by decide +kernel) ?_
  refine x_goto (tgt := 19) C dX10_fault_12 (by decide) ?_
  exact x_iret C E (Nat.le_of_ble_eq_true rfl) (Nat.le_of_ble_eq_true rfl) dX10_fault_19 (⟨rfl, rfl⟩)

set_option maxHeartbeats 4000000 in
set_option maxRecDepth 100000 in
theorem of_X10_told {l : Launch} {a0 : Nat} {D : va_G} {sa : Nat → Nat} {T : Nat → Option hKd} {I : Nat → Nat → Int32} {L : Nat → Nat → Int64} {R : Nat → Nat → Option Nat} {A : Nat → Nat} (xO : isX T R A a0) (hsa : ∀ k, k < 5 → sa k = A (90 + k)) (f : frX I) (p q : Int32) : hM l a0 D sa yX10_told cX10_told 4 (some .int) { frames := 1, cells := 0, slots := 0, locals := 21 } [.ref (A 100), .int p, .int q] (T, I, L, R, A) (fun r G' => r = some (.int (-2)) ∧ G' = (T, I, L, R, A)) := by
  refine hM.of (by decide +kernel) (Nat.le_of_ble_eq_true rfl) ?_
  intro z hl h0 hD hS hN C E
  subst hl; subst h0; subst hD; subst hS
  have C : hC z RX10 cX10_told := C
  have hZ := E.2.2.2.1
  show hX z 0 0 (T, I, L, R, A) [(0, .ref (A 100)), (1, .int p), (2, .int q)] 0 []
  refine x_aload_n C dX10_told_0 0 rfl rfl ?_
  refine x_iload_n C dX10_told_1 1 rfl rfl ?_
  refine x_callV C (of_X10_patternAt xO hsa f p) mv_X10_patternAt ml_X10_57 (xO.1 100 _ rfl).1 rfl rfl rfl (Nat.le_of_ble_eq_true rfl) (hrm (rm := { frames := 0, cells := 0, slots := 0, locals := 0 }) hZ ⟨Nat.le_of_ble_eq_true rfl, Nat.le_of_ble_eq_true rfl⟩) (hcs hZ ⟨Nat.le_of_ble_eq_true rfl, Nat.le_of_ble_eq_true rfl⟩) dX10_told_2 (fun v G' hp => ?_)
  obtain ⟨rfl, rfl⟩ := hp
  show hX z 0 0 (T, I, L, R, A) [(0, .ref (A 100)), (1, .int p), (2, .int q)] 5 [.null]
  refine x_astore_nN (lv' := [(3, .null), (0, .ref (A 100)), (1, .int p), (2, .int q)]) C dX10_told_5 rfl (Nat.lt_of_lt_of_eq (by decide) hN.symm) rfl ?_
  refine x_aload_nN C dX10_told_6 0 rfl rfl ?_
  refine x_ifnullN (tgt := 20) C dX10_told_7 (by decide) ?_
  refine x_bipush (v := (-2)) C dX10_told_20 (by decide +kernel) ?_
  exact x_iret C E (Nat.le_of_ble_eq_true rfl) (Nat.le_of_ble_eq_true rfl) dX10_told_22 (⟨rfl, rfl⟩)

set_option maxHeartbeats 4000000 in
set_option maxRecDepth 100000 in
theorem of_X10_side {l : Launch} {a0 : Nat} {D : va_G} {sa : Nat → Nat} {T : Nat → Option hKd} {I : Nat → Nat → Int32} {L : Nat → Nat → Int64} {R : Nat → Nat → Option Nat} {A : Nat → Nat} (xO : isX T R A a0) (hsa : ∀ k, k < 5 → sa k = A (90 + k)) (f : frX I) (p q r s t : Int32) : hM l a0 D sa yX10_side cX10_side 8 (some .int) { frames := 1, cells := 0, slots := 0, locals := 21 } [.ref (A 100), .int p, .int q, .int r, .int s, .int t] (T, I, L, R, A) (fun r G' => r = some (.int (-2)) ∧ G' = (T, I, L, R, A)) := by
  refine hM.of (by decide +kernel) (Nat.le_of_ble_eq_true rfl) ?_
  intro z hl h0 hD hS hN C E
  subst hl; subst h0; subst hD; subst hS
  have C : hC z RX10 cX10_side := C
  have hZ := E.2.2.2.1
  show hX z 0 0 (T, I, L, R, A) [(0, .ref (A 100)), (1, .int p), (2, .int q), (3, .int r), (4, .int s), (5, .int t)] 0 []
  refine x_aload_n C dX10_side_0 0 rfl rfl ?_
  refine x_iload_n C dX10_side_1 1 rfl rfl ?_
  refine x_callV C (of_X10_patternAt xO hsa f p) mv_X10_patternAt ml_X10_57 (xO.1 100 _ rfl).1 rfl rfl rfl (Nat.le_of_ble_eq_true rfl) (hrm (rm := { frames := 0, cells := 0, slots := 0, locals := 0 }) hZ ⟨Nat.le_of_ble_eq_true rfl, Nat.le_of_ble_eq_true rfl⟩) (hcs hZ ⟨Nat.le_of_ble_eq_true rfl, Nat.le_of_ble_eq_true rfl⟩) dX10_side_2 (fun v G' hp => ?_)
  obtain ⟨rfl, rfl⟩ := hp
  show hX z 0 0 (T, I, L, R, A) [(0, .ref (A 100)), (1, .int p), (2, .int q), (3, .int r), (4, .int s), (5, .int t)] 5 [.null]
  refine x_astoreN (lv' := [(6, .null), (0, .ref (A 100)), (1, .int p), (2, .int q), (3, .int r), (4, .int s), (5, .int t)]) C dX10_side_5 (Nat.lt_of_lt_of_eq (by decide) hN.symm) rfl ?_
  refine x_aloadN C dX10_side_7 0 rfl ?_
  refine x_ifnullN (tgt := 32) C dX10_side_9 (by decide) ?_
  refine x_bipush (v := (-2)) C dX10_side_32 (by decide +kernel) ?_
  exact x_iret C E (Nat.le_of_ble_eq_true rfl) (Nat.le_of_ble_eq_true rfl) dX10_side_34 (⟨rfl, rfl⟩)

set_option maxHeartbeats 4000000 in
set_option maxRecDepth 100000 in
theorem of_X10_again {l : Launch} {a0 : Nat} {D : va_G} {sa : Nat → Nat} {T : Nat → Option hKd} {I : Nat → Nat → Int32} {L : Nat → Nat → Int64} {R : Nat → Nat → Option Nat} {A : Nat → Nat} (xO : isX T R A a0) (hsa : ∀ k, k < 5 → sa k = A (90 + k)) (f : frX I) (p : Int32) : hM l a0 D sa yX10_again cX10_again 4 (some .int) { frames := 1, cells := 0, slots := 0, locals := 21 } [.ref (A 100), .int p] (T, I, L, R, A) (fun r G' => r = some (.int (-2)) ∧ G' = (T, I, L, R, A)) := by
  refine hM.of (by decide +kernel) (Nat.le_of_ble_eq_true rfl) ?_
  intro z hl h0 hD hS hN C E
  subst hl; subst h0; subst hD; subst hS
  have C : hC z RX10 cX10_again := C
  have hZ := E.2.2.2.1
  show hX z 0 0 (T, I, L, R, A) [(0, .ref (A 100)), (1, .int p)] 0 []
  refine x_aload_n C dX10_again_0 0 rfl rfl ?_
  refine x_iload_n C dX10_again_1 1 rfl rfl ?_
  refine x_callV C (of_X10_sideAt xO hsa f p) mv_X10_sideAt ml_X10_97 (xO.1 100 _ rfl).1 rfl rfl rfl (Nat.le_of_ble_eq_true rfl) (hrm (rm := { frames := 0, cells := 0, slots := 0, locals := 0 }) hZ ⟨Nat.le_of_ble_eq_true rfl, Nat.le_of_ble_eq_true rfl⟩) (hcs hZ ⟨Nat.le_of_ble_eq_true rfl, Nat.le_of_ble_eq_true rfl⟩) dX10_again_2 (fun v G' hp => ?_)
  obtain ⟨rfl, rfl⟩ := hp
  show hX z 0 0 (T, I, L, R, A) [(0, .ref (A 100)), (1, .int p)] 5 [.null]
  refine x_astore_nN (lv' := [(2, .null), (0, .ref (A 100)), (1, .int p)]) C dX10_again_5 rfl (Nat.lt_of_lt_of_eq (by decide) hN.symm) rfl ?_
  refine x_aload_nN C dX10_again_6 0 rfl rfl ?_
  refine x_ifnonnullN C dX10_again_7 ?_
  refine x_bipush (v := (-2)) C dX10_again_10 (by decide +kernel) ?_
  exact x_iret C E (Nat.le_of_ble_eq_true rfl) (Nat.le_of_ble_eq_true rfl) dX10_again_12 (⟨rfl, rfl⟩)

set_option maxHeartbeats 4000000 in
set_option maxRecDepth 100000 in
theorem of_X10_write {l : Launch} {a0 : Nat} {D : va_G} {sa : Nat → Nat} {T : Nat → Option hKd} {I : Nat → Nat → Int32} {L : Nat → Nat → Int64} {R : Nat → Nat → Option Nat} {A : Nat → Nat} (xO : isX T R A a0) (hsa : ∀ k, k < 5 → sa k = A (90 + k)) (f : frX I) (p : Int32) : hM l a0 D sa yX10_write cX10_write 3 (some .int) { frames := 1, cells := 0, slots := 0, locals := 21 } [.ref (A 100), .int p] (T, I, L, R, A) (fun r G' => r = some (.int (-2)) ∧ G' = (T, I, L, R, A)) := by
  refine hM.of (by decide +kernel) (Nat.le_of_ble_eq_true rfl) ?_
  intro z hl h0 hD hS hN C E
  subst hl; subst h0; subst hD; subst hS
  have C : hC z RX10 cX10_write := C
  have hZ := E.2.2.2.1
  show hX z 0 0 (T, I, L, R, A) [(0, .ref (A 100)), (1, .int p)] 0 []
  refine x_aload_n C dX10_write_0 0 rfl rfl ?_
  refine x_iload_n C dX10_write_1 1 rfl rfl ?_
  refine x_callV C (of_X10_sideAt xO hsa f p) mv_X10_sideAt ml_X10_97 (xO.1 100 _ rfl).1 rfl rfl rfl (Nat.le_of_ble_eq_true rfl) (hrm (rm := { frames := 0, cells := 0, slots := 0, locals := 0 }) hZ ⟨Nat.le_of_ble_eq_true rfl, Nat.le_of_ble_eq_true rfl⟩) (hcs hZ ⟨Nat.le_of_ble_eq_true rfl, Nat.le_of_ble_eq_true rfl⟩) dX10_write_2 (fun v G' hp => ?_)
  obtain ⟨rfl, rfl⟩ := hp
  show hX z 0 0 (T, I, L, R, A) [(0, .ref (A 100)), (1, .int p)] 5 [.null]
  refine x_astore_nN (lv' := [(2, .null), (0, .ref (A 100)), (1, .int p)]) C dX10_write_5 rfl (Nat.lt_of_lt_of_eq (by decide) hN.symm) rfl ?_
  refine x_aload_nN C dX10_write_6 0 rfl rfl ?_
  refine x_ifnonnullN C dX10_write_7 ?_
  refine x_bipush (v := (-2)) C dX10_write_10 (by decide +kernel) ?_
  exact x_iret C E (Nat.le_of_ble_eq_true rfl) (Nat.le_of_ble_eq_true rfl) dX10_write_12 (⟨rfl, rfl⟩)

set_option maxHeartbeats 4000000 in
set_option maxRecDepth 100000 in
theorem of_X10_read {l : Launch} {a0 : Nat} {D : va_G} {sa : Nat → Nat} {T : Nat → Option hKd} {I : Nat → Nat → Int32} {L : Nat → Nat → Int64} {R : Nat → Nat → Option Nat} {A : Nat → Nat} (xO : isX T R A a0) (hsa : ∀ k, k < 5 → sa k = A (90 + k)) (f : frX I) (p : Int32) : hM l a0 D sa yX10_read cX10_read 4 (some .int) { frames := 1, cells := 0, slots := 0, locals := 21 } [.ref (A 100), .int p] (T, I, L, R, A) (fun r G' => r = some (.int (-2)) ∧ G' = (T, I, L, R, A)) := by
  refine hM.of (by decide +kernel) (Nat.le_of_ble_eq_true rfl) ?_
  intro z hl h0 hD hS hN C E
  subst hl; subst h0; subst hD; subst hS
  have C : hC z RX10 cX10_read := C
  have hZ := E.2.2.2.1
  show hX z 0 0 (T, I, L, R, A) [(0, .ref (A 100)), (1, .int p)] 0 []
  refine x_aload_n C dX10_read_0 0 rfl rfl ?_
  refine x_iload_n C dX10_read_1 1 rfl rfl ?_
  refine x_callV C (of_X10_sideAt xO hsa f p) mv_X10_sideAt ml_X10_97 (xO.1 100 _ rfl).1 rfl rfl rfl (Nat.le_of_ble_eq_true rfl) (hrm (rm := { frames := 0, cells := 0, slots := 0, locals := 0 }) hZ ⟨Nat.le_of_ble_eq_true rfl, Nat.le_of_ble_eq_true rfl⟩) (hcs hZ ⟨Nat.le_of_ble_eq_true rfl, Nat.le_of_ble_eq_true rfl⟩) dX10_read_2 (fun v G' hp => ?_)
  obtain ⟨rfl, rfl⟩ := hp
  show hX z 0 0 (T, I, L, R, A) [(0, .ref (A 100)), (1, .int p)] 5 [.null]
  refine x_astore_nN (lv' := [(2, .null), (0, .ref (A 100)), (1, .int p)]) C dX10_read_5 rfl (Nat.lt_of_lt_of_eq (by decide) hN.symm) rfl ?_
  refine x_aload_nN C dX10_read_6 0 rfl rfl ?_
  refine x_ifnonnullN C dX10_read_7 ?_
  refine x_bipush (v := (-2)) C dX10_read_10 (by decide +kernel) ?_
  exact x_iret C E (Nat.le_of_ble_eq_true rfl) (Nat.le_of_ble_eq_true rfl) dX10_read_12 (⟨rfl, rfl⟩)

set_option maxHeartbeats 4000000 in
set_option maxRecDepth 100000 in
theorem of_X10_hash {l : Launch} {a0 : Nat} {D : va_G} {sa : Nat → Nat} {T : Nat → Option hKd} {I : Nat → Nat → Int32} {L : Nat → Nat → Int64} {R : Nat → Nat → Option Nat} {A : Nat → Nat} (xO : isX T R A a0) (hsa : ∀ k, k < 5 → sa k = A (90 + k)) (f : frX I) (p q : Int32) : hM l a0 D sa yX10_hash cX10_hash 4 (some .int) { frames := 1, cells := 0, slots := 0, locals := 21 } [.ref (A 100), .int p, .int q] (T, I, L, R, A) (fun r G' => r = some (.int (-2)) ∧ G' = (T, I, L, R, A)) := by
  refine hM.of (by decide +kernel) (Nat.le_of_ble_eq_true rfl) ?_
  intro z hl h0 hD hS hN C E
  subst hl; subst h0; subst hD; subst hS
  have C : hC z RX10 cX10_hash := C
  have hZ := E.2.2.2.1
  show hX z 0 0 (T, I, L, R, A) [(0, .ref (A 100)), (1, .int p), (2, .int q)] 0 []
  refine x_aload_n C dX10_hash_0 0 rfl rfl ?_
  refine x_iload_n C dX10_hash_1 1 rfl rfl ?_
  refine x_callV C (of_X10_sideAt xO hsa f p) mv_X10_sideAt ml_X10_97 (xO.1 100 _ rfl).1 rfl rfl rfl (Nat.le_of_ble_eq_true rfl) (hrm (rm := { frames := 0, cells := 0, slots := 0, locals := 0 }) hZ ⟨Nat.le_of_ble_eq_true rfl, Nat.le_of_ble_eq_true rfl⟩) (hcs hZ ⟨Nat.le_of_ble_eq_true rfl, Nat.le_of_ble_eq_true rfl⟩) dX10_hash_2 (fun v G' hp => ?_)
  obtain ⟨rfl, rfl⟩ := hp
  show hX z 0 0 (T, I, L, R, A) [(0, .ref (A 100)), (1, .int p), (2, .int q)] 5 [.null]
  refine x_astore_nN (lv' := [(3, .null), (0, .ref (A 100)), (1, .int p), (2, .int q)]) C dX10_hash_5 rfl (Nat.lt_of_lt_of_eq (by decide) hN.symm) rfl ?_
  refine x_aload_nN C dX10_hash_6 0 rfl rfl ?_
  refine x_ifnullN (tgt := 20) C dX10_hash_7 (by decide) ?_
  refine x_bipush (v := (-2)) C dX10_hash_20 (by decide +kernel) ?_
  exact x_iret C E (Nat.le_of_ble_eq_true rfl) (Nat.le_of_ble_eq_true rfl) dX10_hash_22 (⟨rfl, rfl⟩)

set_option maxHeartbeats 4000000 in
set_option maxRecDepth 100000 in
theorem of_X10_about {l : Launch} {a0 : Nat} {D : va_G} {sa : Nat → Nat} {T : Nat → Option hKd} {I : Nat → Nat → Int32} {L : Nat → Nat → Int64} {R : Nat → Nat → Option Nat} {A : Nat → Nat} (xO : isX T R A a0) (hsa : ∀ k, k < 5 → sa k = A (90 + k)) (f : frX I) (p q : Int32) : hM l a0 D sa yX10_about cX10_about 4 (some .int) { frames := 1, cells := 0, slots := 0, locals := 21 } [.ref (A 100), .int p, .int q] (T, I, L, R, A) (fun r G' => r = some (.int (-2)) ∧ G' = (T, I, L, R, A)) := by
  refine hM.of (by decide +kernel) (Nat.le_of_ble_eq_true rfl) ?_
  intro z hl h0 hD hS hN C E
  subst hl; subst h0; subst hD; subst hS
  have C : hC z RX10 cX10_about := C
  have hZ := E.2.2.2.1
  show hX z 0 0 (T, I, L, R, A) [(0, .ref (A 100)), (1, .int p), (2, .int q)] 0 []
  refine x_aload_n C dX10_about_0 0 rfl rfl ?_
  refine x_iload_n C dX10_about_1 1 rfl rfl ?_
  refine x_callV C (of_X10_sideAt xO hsa f p) mv_X10_sideAt ml_X10_97 (xO.1 100 _ rfl).1 rfl rfl rfl (Nat.le_of_ble_eq_true rfl) (hrm (rm := { frames := 0, cells := 0, slots := 0, locals := 0 }) hZ ⟨Nat.le_of_ble_eq_true rfl, Nat.le_of_ble_eq_true rfl⟩) (hcs hZ ⟨Nat.le_of_ble_eq_true rfl, Nat.le_of_ble_eq_true rfl⟩) dX10_about_2 (fun v G' hp => ?_)
  obtain ⟨rfl, rfl⟩ := hp
  show hX z 0 0 (T, I, L, R, A) [(0, .ref (A 100)), (1, .int p), (2, .int q)] 5 [.null]
  refine x_astore_nN (lv' := [(3, .null), (0, .ref (A 100)), (1, .int p), (2, .int q)]) C dX10_about_5 rfl (Nat.lt_of_lt_of_eq (by decide) hN.symm) rfl ?_
  refine x_aload_nN C dX10_about_6 0 rfl rfl ?_
  refine x_ifnonnullN C dX10_about_7 ?_
  refine x_bipush (v := (-2)) C dX10_about_10 (by decide +kernel) ?_
  refine x_goto (tgt := 20) C dX10_about_12 (by decide) ?_
  exact x_iret C E (Nat.le_of_ble_eq_true rfl) (Nat.le_of_ble_eq_true rfl) dX10_about_20 (⟨rfl, rfl⟩)

set_option maxHeartbeats 4000000 in
set_option maxRecDepth 100000 in
theorem of_X10_same {l : Launch} {a0 : Nat} {D : va_G} {sa : Nat → Nat} {T : Nat → Option hKd} {I : Nat → Nat → Int32} {L : Nat → Nat → Int64} {R : Nat → Nat → Option Nat} {A : Nat → Nat} (xO : isX T R A a0) (hsa : ∀ k, k < 5 → sa k = A (90 + k)) (f : frX I) (p q : Int32) : hM l a0 D sa yX10_same cX10_same 5 (some .int) { frames := 1, cells := 0, slots := 0, locals := 21 } [.ref (A 100), .int p, .int q] (T, I, L, R, A) (fun r G' => r = some (.int (-2)) ∧ G' = (T, I, L, R, A)) := by
  refine hM.of (by decide +kernel) (Nat.le_of_ble_eq_true rfl) ?_
  intro z hl h0 hD hS hN C E
  subst hl; subst h0; subst hD; subst hS
  have C : hC z RX10 cX10_same := C
  have hZ := E.2.2.2.1
  show hX z 0 0 (T, I, L, R, A) [(0, .ref (A 100)), (1, .int p), (2, .int q)] 0 []
  refine x_aload_n C dX10_same_0 0 rfl rfl ?_
  refine x_iload_n C dX10_same_1 1 rfl rfl ?_
  refine x_callV C (of_X10_sideAt xO hsa f p) mv_X10_sideAt ml_X10_97 (xO.1 100 _ rfl).1 rfl rfl rfl (Nat.le_of_ble_eq_true rfl) (hrm (rm := { frames := 0, cells := 0, slots := 0, locals := 0 }) hZ ⟨Nat.le_of_ble_eq_true rfl, Nat.le_of_ble_eq_true rfl⟩) (hcs hZ ⟨Nat.le_of_ble_eq_true rfl, Nat.le_of_ble_eq_true rfl⟩) dX10_same_2 (fun v G' hp => ?_)
  obtain ⟨rfl, rfl⟩ := hp
  show hX z 0 0 (T, I, L, R, A) [(0, .ref (A 100)), (1, .int p), (2, .int q)] 5 [.null]
  refine x_astore_nN (lv' := [(3, .null), (0, .ref (A 100)), (1, .int p), (2, .int q)]) C dX10_same_5 rfl (Nat.lt_of_lt_of_eq (by decide) hN.symm) rfl ?_
  refine x_aload_n C dX10_same_6 1 rfl rfl ?_
  refine x_iload_n C dX10_same_7 3 rfl rfl ?_
  refine x_callV C (of_X10_sideAt xO hsa f q) mv_X10_sideAt ml_X10_97 (xO.1 100 _ rfl).1 rfl rfl rfl (Nat.le_of_ble_eq_true rfl) (hrm (rm := { frames := 0, cells := 0, slots := 0, locals := 0 }) hZ ⟨Nat.le_of_ble_eq_true rfl, Nat.le_of_ble_eq_true rfl⟩) (hcs hZ ⟨Nat.le_of_ble_eq_true rfl, Nat.le_of_ble_eq_true rfl⟩) dX10_same_8 (fun v G' hp => ?_)
  obtain ⟨rfl, rfl⟩ := hp
  show hX z 0 0 (T, I, L, R, A) [(3, .null), (0, .ref (A 100)), (1, .int p), (2, .int q)] 11 [.null]
  refine x_astoreN (lv' := [(4, .null), (3, .null), (0, .ref (A 100)), (1, .int p), (2, .int q)]) C dX10_same_11 (Nat.lt_of_lt_of_eq (by decide) hN.symm) rfl ?_
  refine x_aload_nN C dX10_same_13 1 rfl rfl ?_
  refine x_ifnullN (tgt := 22) C dX10_same_14 (by decide) ?_
  refine x_bipush (v := (-2)) C dX10_same_22 (by decide +kernel) ?_
  exact x_iret C E (Nat.le_of_ble_eq_true rfl) (Nat.le_of_ble_eq_true rfl) dX10_same_24 (⟨rfl, rfl⟩)

set_option maxHeartbeats 4000000 in
set_option maxRecDepth 100000 in
theorem of_X4_at {l : Launch} {a0 : Nat} {D : va_G} {sa : Nat → Nat} {T : Nat → Option hKd} {I : Nat → Nat → Int32} {L : Nat → Nat → Int64} {R : Nat → Nat → Option Nat} {A : Nat → Nat} (h : Nat) (hT : T h = some (.inr 4)) (hs : I h 1 = nI 0) (i : Int32) : hM l a0 D sa yX4_at cX4_at 2 (some .int) { frames := 0, cells := 0, slots := 0, locals := 0 } [.ref (A h), .int i] (T, I, L, R, A) (fun r G' => r = some (.int (-1)) ∧ G' = (T, I, L, R, A)) := by
  refine hM.of (by decide +kernel) (Nat.le_of_ble_eq_true rfl) ?_
  intro z hl h0 hD hS hN C E
  subst hl; subst h0; subst hD; subst hS
  have C : hC z RX4 cX4_at := C
  have hZ := E.2.2.2.1
  show hX z 0 0 (T, I, L, R, A) [(0, .ref (A h)), (1, .int i)] 0 []
  refine x_iload_n C dX4_at_0 1 rfl rfl ?_
  refine x_if_lt (tgt := 21) C dX4_at_1 (by decide) (fun c1 => ?_) (fun c1 => ?_)
  · refine x_iconst (v := (-1)) C dX4_at_21 (by decide +kernel) ?_
    exact x_iret C E (Nat.le_of_ble_eq_true rfl) (Nat.le_of_ble_eq_true rfl) dX4_at_22 (⟨rfl, rfl⟩)
  · refine x_iload_n C dX4_at_4 1 rfl rfl ?_
    refine x_aload_n C dX4_at_5 0 rfl rfl ?_
    refine x_getiN C fl_X4_9 hT rfl dX4_at_6 ?_
    refine x_eqi (y := nI 0) hs ?_
    refine x_icmp_ge (tgt := 21) C dX4_at_9 (by decide) (fun c9 => ?_) (fun c9 => ?_)
    · refine x_iconst (v := (-1)) C dX4_at_21 (by decide +kernel) ?_
      exact x_iret C E (Nat.le_of_ble_eq_true rfl) (Nat.le_of_ble_eq_true rfl) dX4_at_22 (⟨rfl, rfl⟩)
    · exact absurd (by rw [nI_0]; exact Int32.not_lt.mp c1) c9

set_option maxHeartbeats 4000000 in
set_option maxRecDepth 100000 in
theorem of_X4_addTo {l : Launch} {a0 : Nat} {D : va_G} {sa : Nat → Nat} {T : Nat → Option hKd} {I : Nat → Nat → Int32} {L : Nat → Nat → Int64} {R : Nat → Nat → Option Nat} {A : Nat → Nat} (h : Nat) (hT : T h = some (.inr 4)) (hs : I h 1 = nI 0) (i : Int64) : hM l a0 D sa yX4_addTo cX4_addTo 4 (some .long) { frames := 0, cells := 0, slots := 0, locals := 0 } [.ref (A h), .long i] (T, I, L, R, A) (fun r G' => r = some (.long i) ∧ G' = (T, I, L, R, A)) := by
  refine hM.of (by decide +kernel) (Nat.le_of_ble_eq_true rfl) ?_
  intro z hl h0 hD hS hN C E
  subst hl; subst h0; subst hD; subst hS
  have C : hC z RX4 cX4_addTo := C
  have hZ := E.2.2.2.1
  show hX z 0 0 (T, I, L, R, A) [(0, .ref (A h)), (1, .long i)] 0 []
  refine x_iconst (v := nI 0) C dX4_addTo_0 (by decide +kernel) ?_
  refine x_istore_n (lv' := [(3, .int (nI 0)), (0, .ref (A h)), (1, .long i)]) C dX4_addTo_1 rfl (Nat.lt_of_lt_of_eq (by decide) hN.symm) rfl ?_
  refine x_iload_n C dX4_addTo_2 0 rfl rfl ?_
  refine x_aload_n C dX4_addTo_3 1 rfl rfl ?_
  refine x_getiN C fl_X4_9 hT rfl dX4_addTo_4 ?_
  refine x_eqi (y := nI 0) hs ?_
  refine x_icmp_geN (tgt := 30) C (by omega) (by omega) dX4_addTo_7 (by decide) (fun c7 => ?_) (fun c7 => absurd c7 (by omega))
  refine x_lload_n C dX4_addTo_30 2 rfl rfl ?_
  exact x_lret C E (Nat.le_of_ble_eq_true rfl) (Nat.le_of_ble_eq_true rfl) dX4_addTo_31 (⟨rfl, rfl⟩)

set_option maxHeartbeats 4000000 in
set_option maxRecDepth 100000 in
theorem of_X10_alter {l : Launch} {a0 : Nat} {D : va_G} {sa : Nat → Nat} {T : Nat → Option hKd} {I : Nat → Nat → Int32} {L : Nat → Nat → Int64} {R : Nat → Nat → Option Nat} {A : Nat → Nat} (xO : isX T R A a0) (hsa : ∀ k, k < 5 → sa k = A (90 + k)) (f : frX I) (i x : Int32) : hM l a0 D sa yX10_alter cX10_alter 4 (some .int) { frames := 0, cells := 0, slots := 0, locals := 0 } [.ref (A 100), .int i, .int x] (T, I, L, R, A) (fun r G' => r = some (.int (-2)) ∧ G' = (T, I, L, R, A)) := by
  refine hM.of (by decide +kernel) (Nat.le_of_ble_eq_true rfl) ?_
  intro z hl h0 hD hS hN C E
  subst hl; subst h0; subst hD; subst hS
  have C : hC z RX10 cX10_alter := C
  have hZ := E.2.2.2.1
  show hX z 0 0 (T, I, L, R, A) [(0, .ref (A 100)), (1, .int i), (2, .int x)] 0 []
  refine x_iload_n C dX10_alter_0 1 rfl rfl ?_
  refine x_if_lt (tgt := 26) C dX10_alter_1 (by decide) (fun c1 => ?_) (fun c1 => ?_)
  · refine x_bipush (v := (-2)) C dX10_alter_26 (by decide +kernel) ?_
    exact x_iret C E (Nat.le_of_ble_eq_true rfl) (Nat.le_of_ble_eq_true rfl) dX10_alter_28 (⟨rfl, rfl⟩)
  · refine x_iload_n C dX10_alter_4 1 rfl rfl ?_
    refine x_aload_n C dX10_alter_5 0 rfl rfl ?_
    refine x_getrN C fl_X10_30 (xO.1 100 _ rfl).1 rfl (xO.2.1 100 3 _ rfl) dX10_alter_6 ?_
    refine x_getiN C fl_X10_110 (xO.1 105 _ rfl).1 rfl dX10_alter_9 ?_
    refine x_eqi (y := nI 0) f.2.2.2.1 ?_
    refine x_icmp_ge (tgt := 26) C dX10_alter_12 (by decide) (fun c12 => ?_) (fun c12 => ?_)
    · refine x_bipush (v := (-2)) C dX10_alter_26 (by decide +kernel) ?_
      exact x_iret C E (Nat.le_of_ble_eq_true rfl) (Nat.le_of_ble_eq_true rfl) dX10_alter_28 (⟨rfl, rfl⟩)
    · exact absurd (by rw [nI_0]; exact Int32.not_lt.mp c1) c12

set_option maxHeartbeats 4000000 in
set_option maxRecDepth 100000 in
theorem of_X10_cut {l : Launch} {a0 : Nat} {D : va_G} {sa : Nat → Nat} {T : Nat → Option hKd} {I : Nat → Nat → Int32} {L : Nat → Nat → Int64} {R : Nat → Nat → Option Nat} {A : Nat → Nat} (xO : isX T R A a0) (hsa : ∀ k, k < 5 → sa k = A (90 + k)) (f : frX I) (n : Int32) : hM l a0 D sa yX10_cut cX10_cut 3 (some .int) { frames := 0, cells := 0, slots := 0, locals := 0 } [.ref (A 100), .int n] (T, I, L, R, A) (fun r G' => r = some (.int (fCut n)) ∧ ∃ I', G' = (T, I', L, R, A) ∧ fx [105] I I') := by
  refine hM.of (by decide +kernel) (Nat.le_of_ble_eq_true rfl) ?_
  intro z hl h0 hD hS hN C E
  subst hl; subst h0; subst hD; subst hS
  have C : hC z RX10 cX10_cut := C
  have hZ := E.2.2.2.1
  show hX z 0 0 (T, I, L, R, A) [(0, .ref (A 100)), (1, .int n)] 0 []
  refine x_iload_n C dX10_cut_0 1 rfl rfl ?_
  refine x_if_lt (tgt := 15) C dX10_cut_1 (by decide) (fun c1 => ?_) (fun c1 => ?_)
  · refine x_bipush (v := (-2)) C dX10_cut_15 (by decide +kernel) ?_
    exact x_iret C E (Nat.le_of_ble_eq_true rfl) (Nat.le_of_ble_eq_true rfl) dX10_cut_17 (⟨by unfold fCut; rw [if_neg (by first | (intro e; exact absurd c1 (by rw [e, nI_0]; decide)) | (intro e; exact absurd (by rw [e]; exact Int32.le_refl _) c12))], I, rfl, fx.rf⟩)
  · refine x_iload_n C dX10_cut_4 1 rfl rfl ?_
    refine x_aload_n C dX10_cut_5 0 rfl rfl ?_
    refine x_getrN C fl_X10_30 (xO.1 100 _ rfl).1 rfl (xO.2.1 100 3 _ rfl) dX10_cut_6 ?_
    refine x_getiN C fl_X10_110 (xO.1 105 _ rfl).1 rfl dX10_cut_9 ?_
    refine x_eqi (y := nI 0) f.2.2.2.1 ?_
    refine x_icmp_le (tgt := 18) C dX10_cut_12 (by decide) (fun c12 => ?_) (fun c12 => ?_)
    · refine x_aload_n C dX10_cut_18 0 rfl rfl ?_
      refine x_getrN C fl_X10_30 (xO.1 100 _ rfl).1 rfl (xO.2.1 100 3 _ rfl) dX10_cut_19 ?_
      refine x_getiN C fl_X10_110 (xO.1 105 _ rfl).1 rfl dX10_cut_22 ?_
      refine x_eqi (y := nI 0) f.2.2.2.1 ?_
      refine x_iload_n C dX10_cut_25 1 rfl rfl ?_
      refine x_isub C dX10_cut_26 ?_
      refine x_istore_n (lv' := [(2, .int ((nI 0) - n)), (0, .ref (A 100)), (1, .int n)]) C dX10_cut_27 rfl (Nat.lt_of_lt_of_eq (by decide) hN.symm) rfl ?_
      refine x_aload_n C dX10_cut_28 1 rfl rfl ?_
      refine x_getrN C fl_X10_30 (xO.1 100 _ rfl).1 rfl (xO.2.1 100 3 _ rfl) dX10_cut_29 ?_
      refine x_iload_n C dX10_cut_32 2 rfl rfl ?_
      refine x_putiN C fl_X10_110 (xO.1 105 _ rfl).1 (xO.1 105 _ rfl).2 rfl dX10_cut_33 (fun I1 eI1 => ?_)
      refine x_iload_n C dX10_cut_36 0 rfl rfl ?_
      exact x_iret C E (Nat.le_of_ble_eq_true rfl) (Nat.le_of_ble_eq_true rfl) dX10_cut_37 (⟨by have e := (Int32.le_antisymm (a := n) (b := nI 0) (by rw [nI_0] at c12; rw [nI_0]; exact c12) (by rw [nI_0]; exact Int32.not_lt.mp c1)); rw [e]; unfold fCut; rw [if_pos rfl]; rfl, _, rfl, by rw [eI1]; exact fx.up fx.rf (by decide)⟩)
    · refine x_bipush (v := (-2)) C dX10_cut_15 (by decide +kernel) ?_
      exact x_iret C E (Nat.le_of_ble_eq_true rfl) (Nat.le_of_ble_eq_true rfl) dX10_cut_17 (⟨by unfold fCut; rw [if_neg (by first | (intro e; exact absurd c1 (by rw [e, nI_0]; decide)) | (intro e; exact absurd (by rw [e]; exact Int32.le_refl _) c12))], I, rfl, fx.rf⟩)

set_option maxHeartbeats 4000000 in
set_option maxRecDepth 100000 in
theorem of_X10_byteOf {l : Launch} {a0 : Nat} {D : va_G} {sa : Nat → Nat} {T : Nat → Option hKd} {I : Nat → Nat → Int32} {L : Nat → Nat → Int64} {R : Nat → Nat → Option Nat} {A : Nat → Nat} (xO : isX T R A a0) (hsa : ∀ k, k < 5 → sa k = A (90 + k)) (f : frX I) (w i : Int32) : hM l a0 D sa yX10_byteOf cX10_byteOf 3 (some .int) { frames := 1, cells := 0, slots := 0, locals := 21 } [.ref (A 100), .int w, .int i] (T, I, L, R, A) (fun r G' => r = some (.int (fByt w)) ∧ G' = (T, I, L, R, A)) := by
  refine hM.of (by decide +kernel) (Nat.le_of_ble_eq_true rfl) ?_
  intro z hl h0 hD hS hN C E
  subst hl; subst h0; subst hD; subst hS
  have C : hC z RX10 cX10_byteOf := C
  have hZ := E.2.2.2.1
  show hX z 0 0 (T, I, L, R, A) [(0, .ref (A 100)), (1, .int w), (2, .int i)] 0 []
  refine x_iload_n C dX10_byteOf_0 1 rfl rfl ?_
  by_cases s1_0 : w = nI 0
  · refine x_tableIn (off := 27) (tgt := 28) C dX10_byteOf_1 (by rw [s1_0]; decide +kernel) (by rw [s1_0]; decide +kernel) (by rw [s1_0]; decide +kernel) (by decide) ?_
    refine x_aload_n C dX10_byteOf_28 0 rfl rfl ?_
    refine x_getrN C fl_X10_30 (xO.1 100 _ rfl).1 rfl (xO.2.1 100 3 _ rfl) dX10_byteOf_29 ?_
    refine x_iload_n C dX10_byteOf_32 2 rfl rfl ?_
    refine x_callV C (of_X4_at 105 (xO.1 105 _ rfl).1 f.2.2.2.1 i) mv_X4_at ml_X10_145 (xO.1 105 _ rfl).1 rfl rfl rfl (Nat.le_of_ble_eq_true rfl) (hrm (rm := { frames := 0, cells := 0, slots := 0, locals := 0 }) hZ ⟨Nat.le_of_ble_eq_true rfl, Nat.le_of_ble_eq_true rfl⟩) (hcs hZ ⟨Nat.le_of_ble_eq_true rfl, Nat.le_of_ble_eq_true rfl⟩) dX10_byteOf_33 (fun v G' hp => ?_)
    obtain ⟨rfl, rfl⟩ := hp
    show hX z 0 0 (T, I, L, R, A) [(0, .ref (A 100)), (1, .int w), (2, .int i)] 36 [.int (-1)]
    exact x_iret C E (Nat.le_of_ble_eq_true rfl) (Nat.le_of_ble_eq_true rfl) dX10_byteOf_36 (⟨by unfold fByt; rw [if_pos (Or.inl s1_0)], rfl⟩)
  by_cases s1_1 : w = nI 1
  · refine x_tableIn (off := 36) (tgt := 37) C dX10_byteOf_1 (by rw [s1_1]; decide +kernel) (by rw [s1_1]; decide +kernel) (by rw [s1_1]; decide +kernel) (by decide) ?_
    refine x_aload_n C dX10_byteOf_37 0 rfl rfl ?_
    refine x_getrN C fl_X10_33 (xO.1 100 _ rfl).1 rfl (xO.2.1 100 4 _ rfl) dX10_byteOf_38 ?_
    refine x_iload_n C dX10_byteOf_41 2 rfl rfl ?_
    refine x_callV C (of_X4_at 107 (xO.1 107 _ rfl).1 f.2.2.2.2 i) mv_X4_at ml_X10_145 (xO.1 107 _ rfl).1 rfl rfl rfl (Nat.le_of_ble_eq_true rfl) (hrm (rm := { frames := 0, cells := 0, slots := 0, locals := 0 }) hZ ⟨Nat.le_of_ble_eq_true rfl, Nat.le_of_ble_eq_true rfl⟩) (hcs hZ ⟨Nat.le_of_ble_eq_true rfl, Nat.le_of_ble_eq_true rfl⟩) dX10_byteOf_42 (fun v G' hp => ?_)
    obtain ⟨rfl, rfl⟩ := hp
    show hX z 0 0 (T, I, L, R, A) [(0, .ref (A 100)), (1, .int w), (2, .int i)] 45 [.int (-1)]
    exact x_iret C E (Nat.le_of_ble_eq_true rfl) (Nat.le_of_ble_eq_true rfl) dX10_byteOf_45 (⟨by unfold fByt; rw [if_pos (Or.inr (Or.inl s1_1))], rfl⟩)
  by_cases s1_2 : w = nI 2
  · refine x_tableIn (off := 45) (tgt := 46) C dX10_byteOf_1 (by rw [s1_2]; decide +kernel) (by rw [s1_2]; decide +kernel) (by rw [s1_2]; decide +kernel) (by decide) ?_
    refine x_aload_n C dX10_byteOf_46 0 rfl rfl ?_
    refine x_getrN C fl_X10_26 (xO.1 100 _ rfl).1 rfl (xO.2.1 100 2 _ rfl) dX10_byteOf_47 ?_
    refine x_iload_n C dX10_byteOf_50 2 rfl rfl ?_
    refine x_callV C (of_X4_at 103 (xO.1 103 _ rfl).1 f.2.2.1 i) mv_X4_at ml_X10_145 (xO.1 103 _ rfl).1 rfl rfl rfl (Nat.le_of_ble_eq_true rfl) (hrm (rm := { frames := 0, cells := 0, slots := 0, locals := 0 }) hZ ⟨Nat.le_of_ble_eq_true rfl, Nat.le_of_ble_eq_true rfl⟩) (hcs hZ ⟨Nat.le_of_ble_eq_true rfl, Nat.le_of_ble_eq_true rfl⟩) dX10_byteOf_51 (fun v G' hp => ?_)
    obtain ⟨rfl, rfl⟩ := hp
    show hX z 0 0 (T, I, L, R, A) [(0, .ref (A 100)), (1, .int w), (2, .int i)] 54 [.int (-1)]
    exact x_iret C E (Nat.le_of_ble_eq_true rfl) (Nat.le_of_ble_eq_true rfl) dX10_byteOf_54 (⟨by unfold fByt; rw [if_pos (Or.inr (Or.inr s1_2))], rfl⟩)
  refine x_tableOut (tgt := 55) C dX10_byteOf_1 (sw_out2 s1_0 s1_1 s1_2) (by decide) ?_
  refine x_bipush (v := (-2)) C dX10_byteOf_55 (by decide +kernel) ?_
  exact x_iret C E (Nat.le_of_ble_eq_true rfl) (Nat.le_of_ble_eq_true rfl) dX10_byteOf_57 (⟨by unfold fByt; rw [if_neg (by simp [s1_0, s1_1, s1_2])], rfl⟩)

set_option maxHeartbeats 4000000 in
set_option maxRecDepth 100000 in
theorem of_X10_count {l : Launch} {a0 : Nat} {D : va_G} {sa : Nat → Nat} {T : Nat → Option hKd} {I : Nat → Nat → Int32} {L : Nat → Nat → Int64} {R : Nat → Nat → Option Nat} {A : Nat → Nat} (xO : isX T R A a0) (hsa : ∀ k, k < 5 → sa k = A (90 + k)) (f : frX I) (w : Int32) : hM l a0 D sa yX10_count cX10_count 2 (some .int) { frames := 0, cells := 0, slots := 0, locals := 0 } [.ref (A 100), .int w] (T, I, L, R, A) (fun r G' => r = some (.int (fCnt w)) ∧ G' = (T, I, L, R, A)) := by
  refine hM.of (by decide +kernel) (Nat.le_of_ble_eq_true rfl) ?_
  intro z hl h0 hD hS hN C E
  subst hl; subst h0; subst hD; subst hS
  have C : hC z RX10 cX10_count := C
  have hZ := E.2.2.2.1
  show hX z 0 0 (T, I, L, R, A) [(0, .ref (A 100)), (1, .int w)] 0 []
  refine x_iload_n C dX10_count_0 1 rfl rfl ?_
  by_cases s1_0 : w = nI 0
  · refine x_tableIn (off := 35) (tgt := 36) C dX10_count_1 (by rw [s1_0]; decide +kernel) (by rw [s1_0]; decide +kernel) (by rw [s1_0]; decide +kernel) (by decide) ?_
    refine x_aload_n C dX10_count_36 0 rfl rfl ?_
    refine x_getiN C fl_X10_47 (xO.1 100 _ rfl).1 rfl dX10_count_37 ?_
    refine x_eqi (y := nI 0) f.1 ?_
    exact x_iret C E (Nat.le_of_ble_eq_true rfl) (Nat.le_of_ble_eq_true rfl) dX10_count_40 (⟨by unfold fCnt; rw [if_pos (Or.inl s1_0)], rfl⟩)
  by_cases s1_1 : w = nI 1
  · refine x_tableIn (off := 40) (tgt := 41) C dX10_count_1 (by rw [s1_1]; decide +kernel) (by rw [s1_1]; decide +kernel) (by rw [s1_1]; decide +kernel) (by decide) ?_
    refine x_aload_n C dX10_count_41 0 rfl rfl ?_
    refine x_getiN C fl_X10_51 (xO.1 100 _ rfl).1 rfl dX10_count_42 ?_
    refine x_eqi (y := nI 0) f.2.1 ?_
    exact x_iret C E (Nat.le_of_ble_eq_true rfl) (Nat.le_of_ble_eq_true rfl) dX10_count_45 (⟨by unfold fCnt; rw [if_pos (Or.inr (Or.inl s1_1))], rfl⟩)
  by_cases s1_2 : w = nI 2
  · refine x_tableIn (off := 45) (tgt := 46) C dX10_count_1 (by rw [s1_2]; decide +kernel) (by rw [s1_2]; decide +kernel) (by rw [s1_2]; decide +kernel) (by decide) ?_
    refine x_aload_n C dX10_count_46 0 rfl rfl ?_
    refine x_getrN C fl_X10_26 (xO.1 100 _ rfl).1 rfl (xO.2.1 100 2 _ rfl) dX10_count_47 ?_
    refine x_getiN C fl_X10_110 (xO.1 103 _ rfl).1 rfl dX10_count_50 ?_
    refine x_eqi (y := nI 0) f.2.2.1 ?_
    exact x_iret C E (Nat.le_of_ble_eq_true rfl) (Nat.le_of_ble_eq_true rfl) dX10_count_53 (⟨by unfold fCnt; rw [if_pos (Or.inr (Or.inr (Or.inl s1_2)))], rfl⟩)
  by_cases s1_3 : w = nI 3
  · refine x_tableIn (off := 53) (tgt := 54) C dX10_count_1 (by rw [s1_3]; decide +kernel) (by rw [s1_3]; decide +kernel) (by rw [s1_3]; decide +kernel) (by decide) ?_
    refine x_aload_n C dX10_count_54 0 rfl rfl ?_
    refine x_getrN C fl_X10_30 (xO.1 100 _ rfl).1 rfl (xO.2.1 100 3 _ rfl) dX10_count_55 ?_
    refine x_getiN C fl_X10_110 (xO.1 105 _ rfl).1 rfl dX10_count_58 ?_
    refine x_eqi (y := nI 0) f.2.2.2.1 ?_
    exact x_iret C E (Nat.le_of_ble_eq_true rfl) (Nat.le_of_ble_eq_true rfl) dX10_count_61 (⟨by unfold fCnt; rw [if_pos (Or.inr (Or.inr (Or.inr (Or.inl s1_3))))], rfl⟩)
  by_cases s1_4 : w = nI 4
  · refine x_tableIn (off := 61) (tgt := 62) C dX10_count_1 (by rw [s1_4]; decide +kernel) (by rw [s1_4]; decide +kernel) (by rw [s1_4]; decide +kernel) (by decide) ?_
    refine x_aload_n C dX10_count_62 0 rfl rfl ?_
    refine x_getrN C fl_X10_33 (xO.1 100 _ rfl).1 rfl (xO.2.1 100 4 _ rfl) dX10_count_63 ?_
    refine x_getiN C fl_X10_110 (xO.1 107 _ rfl).1 rfl dX10_count_66 ?_
    refine x_eqi (y := nI 0) f.2.2.2.2 ?_
    exact x_iret C E (Nat.le_of_ble_eq_true rfl) (Nat.le_of_ble_eq_true rfl) dX10_count_69 (⟨by unfold fCnt; rw [if_pos (Or.inr (Or.inr (Or.inr (Or.inr s1_4))))], rfl⟩)
  refine x_tableOut (tgt := 70) C dX10_count_1 (sw_out4 s1_0 s1_1 s1_2 s1_3 s1_4) (by decide) ?_
  refine x_bipush (v := (-2)) C dX10_count_70 (by decide +kernel) ?_
  exact x_iret C E (Nat.le_of_ble_eq_true rfl) (Nat.le_of_ble_eq_true rfl) dX10_count_72 (⟨by unfold fCnt; rw [if_neg (by simp [s1_0, s1_1, s1_2, s1_3, s1_4])], rfl⟩)

set_option maxHeartbeats 4000000 in
set_option maxRecDepth 100000 in
theorem of_X10_digest {l : Launch} {a0 : Nat} {D : va_G} {sa : Nat → Nat} {T : Nat → Option hKd} {I : Nat → Nat → Int32} {L : Nat → Nat → Int64} {R : Nat → Nat → Option Nat} {A : Nat → Nat} (xO : isX T R A a0) (hsa : ∀ k, k < 5 → sa k = A (90 + k)) (f : frX I)  : hM l a0 D sa yX10_digest cX10_digest 5 (some .long) { frames := 1, cells := 0, slots := 0, locals := 23 } [.ref (A 100)] (T, I, L, R, A) (fun r G' => r = some (.long 67) ∧ G' = (T, I, L, R, A)) := by
  refine hM.of (by decide +kernel) (Nat.le_of_ble_eq_true rfl) ?_
  intro z hl h0 hD hS hN C E
  subst hl; subst h0; subst hD; subst hS
  have C : hC z RX10 cX10_digest := C
  have hZ := E.2.2.2.1
  show hX z 0 0 (T, I, L, R, A) [(0, .ref (A 100))] 0 []
  refine x_ldc2 C dX10_digest_0 kc_X10_163 ?_
  refine x_lstore_n (lv' := [(1, .long 67), (0, .ref (A 100))]) C dX10_digest_3 rfl (Nat.lt_of_lt_of_eq (by decide) hN.symm) rfl ?_
  refine x_iconst (v := nI 0) C dX10_digest_4 (by decide +kernel) ?_
  refine x_istore_n (lv' := [(3, .int (nI 0)), (1, .long 67), (0, .ref (A 100))]) C dX10_digest_5 rfl (Nat.lt_of_lt_of_eq (by decide) hN.symm) rfl ?_
  refine x_iload_n C dX10_digest_6 0 rfl rfl ?_
  refine x_aload_n C dX10_digest_7 2 rfl rfl ?_
  refine x_getiN C fl_X10_51 (xO.1 100 _ rfl).1 rfl dX10_digest_8 ?_
  refine x_eqi (y := nI 0) f.2.1 ?_
  refine x_icmp_geN (tgt := 82) C (by omega) (by omega) dX10_digest_11 (by decide) (fun c11 => ?_) (fun c11 => absurd c11 (by omega))
  refine x_aload_n C dX10_digest_82 2 rfl rfl ?_
  refine x_getrN C fl_X10_33 (xO.1 100 _ rfl).1 rfl (xO.2.1 100 4 _ rfl) dX10_digest_83 ?_
  refine x_aload_n C dX10_digest_86 2 rfl rfl ?_
  refine x_getrN C fl_X10_30 (xO.1 100 _ rfl).1 rfl (xO.2.1 100 3 _ rfl) dX10_digest_87 ?_
  refine x_lload_n C dX10_digest_90 1 rfl rfl ?_
  refine x_callV C (of_X4_addTo 105 (xO.1 105 _ rfl).1 f.2.2.2.1 67) mv_X4_addTo ml_X10_174 (xO.1 105 _ rfl).1 rfl rfl rfl (Nat.le_of_ble_eq_true rfl) (hrm (rm := { frames := 0, cells := 0, slots := 0, locals := 0 }) hZ ⟨Nat.le_of_ble_eq_true rfl, Nat.le_of_ble_eq_true rfl⟩) (hcs hZ ⟨Nat.le_of_ble_eq_true rfl, Nat.le_of_ble_eq_true rfl⟩) dX10_digest_91 (fun v G' hp => ?_)
  obtain ⟨rfl, rfl⟩ := hp
  show hX z 0 0 (T, I, L, R, A) [(3, .int (nI 0)), (1, .long 67), (0, .ref (A 100))] 94 [.long 67, .ref (A 107)]
  refine x_callV C (of_X4_addTo 107 (xO.1 107 _ rfl).1 f.2.2.2.2 67) mv_X4_addTo ml_X10_174 (xO.1 107 _ rfl).1 rfl rfl rfl (Nat.le_of_ble_eq_true rfl) (hrm (rm := { frames := 0, cells := 0, slots := 0, locals := 0 }) hZ ⟨Nat.le_of_ble_eq_true rfl, Nat.le_of_ble_eq_true rfl⟩) (hcs hZ ⟨Nat.le_of_ble_eq_true rfl, Nat.le_of_ble_eq_true rfl⟩) dX10_digest_94 (fun v G' hp => ?_)
  obtain ⟨rfl, rfl⟩ := hp
  show hX z 0 0 (T, I, L, R, A) [(3, .int (nI 0)), (1, .long 67), (0, .ref (A 100))] 97 [.long 67]
  exact x_lret C E (Nat.le_of_ble_eq_true rfl) (Nat.le_of_ble_eq_true rfl) dX10_digest_97 (⟨rfl, rfl⟩)

