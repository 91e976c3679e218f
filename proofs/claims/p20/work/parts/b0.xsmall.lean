/-! ===== StepShake: alter, cut, byteOf, hash, about, same, count, digest ===== -/
set_option maxHeartbeats 4000000 in
set_option maxRecDepth 100000 in
theorem bd_X10_alter {l : Launch} {a0 : Nat} {D : va_G} {sa : Nat → Nat} {T : Nat → Option hKd} {I : Nat → Nat → Int32} {L : Nat → Nat → Int64} {R : Nat → Nat → Option Nat} {A : Nat → Nat} (xO : isX T R A a0) (hsa : ∀ k, k < 5 → sa k = A (90 + k)) (ln : Nat) (hln : I 105 1 = nI ln) (hl160 : ln ≤ 160) (i x : Int32) (hbd : (i < 0 ∨ nI ln ≤ i) ∨ (x < 0 ∨ nI 255 < x)) : hM l a0 D sa yX10_alter cX10_alter 4 (some .int) { frames := 0, cells := 0, slots := 0, locals := 0 } [.ref (A 100), .int i, .int x] (T, I, L, R, A) (fun r G' => r = some (.int (-2)) ∧ G' = (T, I, L, R, A)) := by
  refine hM.of (by decide +kernel) (Nat.le_of_ble_eq_true rfl) ?_
  intro z hl h0 hD hS hN C E
  subst hl; subst h0; subst hD; subst hS
  have C : hC z RX10 cX10_alter := C
  have hZ := E.2.2.2.1
  show hX z 0 0 (T, I, L, R, A) [(0, .ref (A 100)), (1, .int i), (2, .int x)] 0 []
  refine x_iload_n C dX10_alter_0 1 rfl rfl ?_
  refine x_if_lt (tgt := 26) C dX10_alter_1 (by decide) (fun c1 => ?_) (fun c1 => ?_)
  · refine x_bipush (v := (-2)) C dX10_alter_26 (by decide +kernel) ?_
    exact x_iret C E (Nat.le_of_ble_eq_true rfl) (Nat.le_of_ble_eq_true rfl) dX10_alter_28 (⟨rfl, rfl⟩)
  · refine x_iload_n C dX10_alter_4 1 rfl rfl ?_
    refine x_aload_n C dX10_alter_5 0 rfl rfl ?_
    refine x_getrN C fl_X10_30 (xO.1 100 _ rfl).1 rfl (xO.2.1 100 3 _ rfl) dX10_alter_6 ?_
    refine x_getiN C fl_X10_110 (xO.1 105 _ rfl).1 rfl dX10_alter_9 ?_
    refine x_eqi (y := nI ln) hln ?_
    refine x_icmp_ge (tgt := 26) C dX10_alter_12 (by decide) (fun c12 => ?_) (fun c12 => ?_)
    · refine x_bipush (v := (-2)) C dX10_alter_26 (by decide +kernel) ?_
      exact x_iret C E (Nat.le_of_ble_eq_true rfl) (Nat.le_of_ble_eq_true rfl) dX10_alter_28 (⟨rfl, rfl⟩)
    · refine x_iload_n C dX10_alter_15 2 rfl rfl ?_
      refine x_if_lt (tgt := 26) C dX10_alter_16 (by decide) (fun c16 => ?_) (fun c16 => ?_)
      · refine x_bipush (v := (-2)) C dX10_alter_26 (by decide +kernel) ?_
        exact x_iret C E (Nat.le_of_ble_eq_true rfl) (Nat.le_of_ble_eq_true rfl) dX10_alter_28 (⟨rfl, rfl⟩)
      · refine x_iload_n C dX10_alter_19 2 rfl rfl ?_
        refine x_sipush (v := nI 255) C dX10_alter_20 (by decide +kernel) ?_
        refine x_icmp_le (tgt := 29) C dX10_alter_23 (by decide) (fun c23 => ?_) (fun c23 => ?_)
        · exact False.elim (by rcases hbd with (h | h) | (h | h); exact c1 h; exact c12 h; exact c16 h; exact Int32.not_lt.mpr c23 h)
        · refine x_bipush (v := (-2)) C dX10_alter_26 (by decide +kernel) ?_
          exact x_iret C E (Nat.le_of_ble_eq_true rfl) (Nat.le_of_ble_eq_true rfl) dX10_alter_28 (⟨rfl, rfl⟩)

set_option maxHeartbeats 4000000 in
set_option maxRecDepth 100000 in
theorem ok_X10_alter {l : Launch} {a0 : Nat} {D : va_G} {sa : Nat → Nat} {T : Nat → Option hKd} {I : Nat → Nat → Int32} {L : Nat → Nat → Int64} {R : Nat → Nat → Option Nat} {A : Nat → Nat} (xO : isX T R A a0) (hsa : ∀ k, k < 5 → sa k = A (90 + k)) (ln : Nat) (hln : I 105 1 = nI ln) (hl160 : ln ≤ 160) (k b : Nat) (hk : k < ln) (hb : b < 256) : hM l a0 D sa yX10_alter cX10_alter 4 (some .int) { frames := 0, cells := 0, slots := 0, locals := 0 } [.ref (A 100), .int (nI k), .int (nI b)] (T, I, L, R, A) (fun r G' => r = some (.int (I 106 k)) ∧ ∃ I', G' = (T, I', L, R, A) ∧ I' = va_up I 106 (upd (I 106) k (I 106 k ^^^ nI b))) := by
  refine hM.of (by decide +kernel) (Nat.le_of_ble_eq_true rfl) ?_
  intro z hl h0 hD hS hN C E
  subst hl; subst h0; subst hD; subst hS
  have C : hC z RX10 cX10_alter := C
  have hZ := E.2.2.2.1
  show hX z 0 0 (T, I, L, R, A) [(0, .ref (A 100)), (1, .int (nI k)), (2, .int (nI b))] 0 []
  refine x_iload_n C dX10_alter_0 1 rfl rfl ?_
  refine x_if_ltN (tgt := 26) C (by omega) dX10_alter_1 (by decide) ?_
  refine x_iload_n C dX10_alter_4 1 rfl rfl ?_
  refine x_aload_n C dX10_alter_5 0 rfl rfl ?_
  refine x_getrN C fl_X10_30 (xO.1 100 _ rfl).1 rfl (xO.2.1 100 3 _ rfl) dX10_alter_6 ?_
  refine x_getiN C fl_X10_110 (xO.1 105 _ rfl).1 rfl dX10_alter_9 ?_
  refine x_eqi (y := nI ln) hln ?_
  refine x_icmp_geN (tgt := 26) C (by omega) (by omega) dX10_alter_12 (by decide) (fun c12 => absurd c12 (by omega)) (fun c12 => ?_)
  refine x_iload_n C dX10_alter_15 2 rfl rfl ?_
  refine x_if_ltN (tgt := 26) C (by omega) dX10_alter_16 (by decide) ?_
  refine x_iload_n C dX10_alter_19 2 rfl rfl ?_
  refine x_sipush (v := nI 255) C dX10_alter_20 (by decide +kernel) ?_
  refine x_icmp_leN (tgt := 29) C (by omega) (by omega) dX10_alter_23 (by decide) (fun c23 => ?_) (fun c23 => absurd c23 (by omega))
  refine x_aload_n C dX10_alter_29 0 rfl rfl ?_
  refine x_getrN C fl_X10_30 (xO.1 100 _ rfl).1 rfl (xO.2.1 100 3 _ rfl) dX10_alter_30 ?_
  refine x_getrN C fl_X10_142 (xO.1 105 _ rfl).1 rfl (xO.2.1 105 0 _ rfl) dX10_alter_33 ?_
  refine x_iload_n C dX10_alter_36 1 rfl rfl ?_
  refine x_ialdN C (xO.1 106 _ rfl).1 (by omega) (by omega) dX10_alter_37 ?_
  refine x_istore_n (lv' := [(3, .int (I 106 k)), (0, .ref (A 100)), (1, .int (nI k)), (2, .int (nI b))]) C dX10_alter_38 rfl (Nat.lt_of_lt_of_eq (by decide) hN.symm) rfl ?_
  refine x_aload_n C dX10_alter_39 1 rfl rfl ?_
  refine x_getrN C fl_X10_30 (xO.1 100 _ rfl).1 rfl (xO.2.1 100 3 _ rfl) dX10_alter_40 ?_
  refine x_getrN C fl_X10_142 (xO.1 105 _ rfl).1 rfl (xO.2.1 105 0 _ rfl) dX10_alter_43 ?_
  refine x_iload_n C dX10_alter_46 2 rfl rfl ?_
  refine x_iload_n C dX10_alter_47 0 rfl rfl ?_
  refine x_iload_n C dX10_alter_48 3 rfl rfl ?_
  refine x_ixor C dX10_alter_49 ?_
  refine x_iastN C (xO.1 106 _ rfl).1 (xO.1 106 _ rfl).2 (by omega) (by omega) dX10_alter_50 (fun I1 eI1 => ?_)
  refine x_iload_n C dX10_alter_51 0 rfl rfl ?_
  exact x_iret C E (Nat.le_of_ble_eq_true rfl) (Nat.le_of_ble_eq_true rfl) dX10_alter_52 (⟨rfl, _, rfl, eI1⟩)

set_option maxHeartbeats 4000000 in
set_option maxRecDepth 100000 in
theorem bd_X10_cut {l : Launch} {a0 : Nat} {D : va_G} {sa : Nat → Nat} {T : Nat → Option hKd} {I : Nat → Nat → Int32} {L : Nat → Nat → Int64} {R : Nat → Nat → Option Nat} {A : Nat → Nat} (xO : isX T R A a0) (hsa : ∀ k, k < 5 → sa k = A (90 + k)) (ln : Nat) (hln : I 105 1 = nI ln) (hl160 : ln ≤ 160) (i : Int32) (hbd : i < 0 ∨ nI ln < i) : hM l a0 D sa yX10_cut cX10_cut 3 (some .int) { frames := 0, cells := 0, slots := 0, locals := 0 } [.ref (A 100), .int i] (T, I, L, R, A) (fun r G' => r = some (.int (-2)) ∧ G' = (T, I, L, R, A)) := by
  refine hM.of (by decide +kernel) (Nat.le_of_ble_eq_true rfl) ?_
  intro z hl h0 hD hS hN C E
  subst hl; subst h0; subst hD; subst hS
  have C : hC z RX10 cX10_cut := C
  have hZ := E.2.2.2.1
  show hX z 0 0 (T, I, L, R, A) [(0, .ref (A 100)), (1, .int i)] 0 []
  refine x_iload_n C dX10_cut_0 1 rfl rfl ?_
  refine x_if_lt (tgt := 15) C dX10_cut_1 (by decide) (fun c1 => ?_) (fun c1 => ?_)
  · refine x_bipush (v := (-2)) C dX10_cut_15 (by decide +kernel) ?_
    exact x_iret C E (Nat.le_of_ble_eq_true rfl) (Nat.le_of_ble_eq_true rfl) dX10_cut_17 (⟨rfl, rfl⟩)
  · refine x_iload_n C dX10_cut_4 1 rfl rfl ?_
    refine x_aload_n C dX10_cut_5 0 rfl rfl ?_
    refine x_getrN C fl_X10_30 (xO.1 100 _ rfl).1 rfl (xO.2.1 100 3 _ rfl) dX10_cut_6 ?_
    refine x_getiN C fl_X10_110 (xO.1 105 _ rfl).1 rfl dX10_cut_9 ?_
    refine x_eqi (y := nI ln) hln ?_
    refine x_icmp_le (tgt := 18) C dX10_cut_12 (by decide) (fun c12 => ?_) (fun c12 => ?_)
    · exact False.elim (by rcases hbd with h | h; exact c1 h; exact Int32.not_lt.mpr c12 h)
    · refine x_bipush (v := (-2)) C dX10_cut_15 (by decide +kernel) ?_
      exact x_iret C E (Nat.le_of_ble_eq_true rfl) (Nat.le_of_ble_eq_true rfl) dX10_cut_17 (⟨rfl, rfl⟩)

set_option maxHeartbeats 4000000 in
set_option maxRecDepth 100000 in
theorem ok_X10_cut {l : Launch} {a0 : Nat} {D : va_G} {sa : Nat → Nat} {T : Nat → Option hKd} {I : Nat → Nat → Int32} {L : Nat → Nat → Int64} {R : Nat → Nat → Option Nat} {A : Nat → Nat} (xO : isX T R A a0) (hsa : ∀ k, k < 5 → sa k = A (90 + k)) (ln : Nat) (hln : I 105 1 = nI ln) (hl160 : ln ≤ 160) (k : Nat) (hk : k ≤ ln) : hM l a0 D sa yX10_cut cX10_cut 3 (some .int) { frames := 0, cells := 0, slots := 0, locals := 0 } [.ref (A 100), .int (nI k)] (T, I, L, R, A) (fun r G' => r = some (.int (nI (ln - k))) ∧ ∃ I', G' = (T, I', L, R, A) ∧ I' = va_up I 105 (upd (I 105) 1 (nI k))) := by
  refine hM.of (by decide +kernel) (Nat.le_of_ble_eq_true rfl) ?_
  intro z hl h0 hD hS hN C E
  subst hl; subst h0; subst hD; subst hS
  have C : hC z RX10 cX10_cut := C
  have hZ := E.2.2.2.1
  show hX z 0 0 (T, I, L, R, A) [(0, .ref (A 100)), (1, .int (nI k))] 0 []
  refine x_iload_n C dX10_cut_0 1 rfl rfl ?_
  refine x_if_ltN (tgt := 15) C (by omega) dX10_cut_1 (by decide) ?_
  refine x_iload_n C dX10_cut_4 1 rfl rfl ?_
  refine x_aload_n C dX10_cut_5 0 rfl rfl ?_
  refine x_getrN C fl_X10_30 (xO.1 100 _ rfl).1 rfl (xO.2.1 100 3 _ rfl) dX10_cut_6 ?_
  refine x_getiN C fl_X10_110 (xO.1 105 _ rfl).1 rfl dX10_cut_9 ?_
  refine x_eqi (y := nI ln) hln ?_
  refine x_icmp_leN (tgt := 18) C (by omega) (by omega) dX10_cut_12 (by decide) (fun c12 => ?_) (fun c12 => absurd c12 (by omega))
  refine x_aload_n C dX10_cut_18 0 rfl rfl ?_
  refine x_getrN C fl_X10_30 (xO.1 100 _ rfl).1 rfl (xO.2.1 100 3 _ rfl) dX10_cut_19 ?_
  refine x_getiN C fl_X10_110 (xO.1 105 _ rfl).1 rfl dX10_cut_22 ?_
  refine x_eqi (y := nI ln) hln ?_
  refine x_iload_n C dX10_cut_25 1 rfl rfl ?_
  refine x_isubN C (by omega) dX10_cut_26 ?_
  refine x_istore_n (lv' := [(2, .int (nI (ln - k))), (0, .ref (A 100)), (1, .int (nI k))]) C dX10_cut_27 rfl (Nat.lt_of_lt_of_eq (by decide) hN.symm) rfl ?_
  refine x_aload_n C dX10_cut_28 1 rfl rfl ?_
  refine x_getrN C fl_X10_30 (xO.1 100 _ rfl).1 rfl (xO.2.1 100 3 _ rfl) dX10_cut_29 ?_
  refine x_iload_n C dX10_cut_32 2 rfl rfl ?_
  refine x_putiN C fl_X10_110 (xO.1 105 _ rfl).1 (xO.1 105 _ rfl).2 rfl dX10_cut_33 (fun I1 eI1 => ?_)
  refine x_iload_n C dX10_cut_36 0 rfl rfl ?_
  exact x_iret C E (Nat.le_of_ble_eq_true rfl) (Nat.le_of_ble_eq_true rfl) dX10_cut_37 (⟨rfl, _, rfl, eI1⟩)

theorem out2 {w : Int32} (h : w < 0 ∨ nI 2 < w) : w.toInt < 0 ∨ 2 < w.toInt := by
  rcases h with h | h
  · exact Or.inl (by have := Int32.lt_iff_toInt_lt.mp h; simpa using this)
  · exact Or.inr (by have := Int32.lt_iff_toInt_lt.mp h; rw [nI_toInt (by decide)] at this; exact this)
set_option maxHeartbeats 4000000 in
set_option maxRecDepth 100000 in
theorem bd_X10_byteOf {l : Launch} {a0 : Nat} {D : va_G} {sa : Nat → Nat} {T : Nat → Option hKd} {I : Nat → Nat → Int32} {L : Nat → Nat → Int64} {R : Nat → Nat → Option Nat} {A : Nat → Nat} (xO : isX T R A a0) (hsa : ∀ k, k < 5 → sa k = A (90 + k)) (w i : Int32) (hbd : w < 0 ∨ nI 2 < w) : hM l a0 D sa yX10_byteOf cX10_byteOf 3 (some .int) { frames := 0, cells := 0, slots := 0, locals := 0 } [.ref (A 100), .int w, .int i] (T, I, L, R, A) (fun r G' => r = some (.int (-2)) ∧ G' = (T, I, L, R, A)) := by
  refine hM.of (by decide +kernel) (Nat.le_of_ble_eq_true rfl) ?_
  intro z hl h0 hD hS hN C E
  subst hl; subst h0; subst hD; subst hS
  have C : hC z RX10 cX10_byteOf := C
  have hZ := E.2.2.2.1
  show hX z 0 0 (T, I, L, R, A) [(0, .ref (A 100)), (1, .int w), (2, .int i)] 0 []
  have hout := out2 hbd
  refine x_iload_n C dX10_byteOf_0 1 rfl rfl ?_
  refine x_tableOut (tgt := 55) C dX10_byteOf_1 hout (by decide) ?_
  refine x_bipush (v := (-2)) C dX10_byteOf_55 (by decide +kernel) ?_
  exact x_iret C E (Nat.le_of_ble_eq_true rfl) (Nat.le_of_ble_eq_true rfl) dX10_byteOf_57 (⟨rfl, rfl⟩)

set_option maxHeartbeats 4000000 in
set_option maxRecDepth 100000 in
theorem ok0_X10_byteOf {l : Launch} {a0 : Nat} {D : va_G} {sa : Nat → Nat} {T : Nat → Option hKd} {I : Nat → Nat → Int32} {L : Nat → Nat → Int64} {R : Nat → Nat → Option Nat} {A : Nat → Nat} (xO : isX T R A a0) (hsa : ∀ k, k < 5 → sa k = A (90 + k)) (n : Nat) (hn : I 105 1 = nI n) (hc : n ≤ 160) (i : Int32) : hM l a0 D sa yX10_byteOf cX10_byteOf 3 (some .int) { frames := 1, cells := 0, slots := 0, locals := 21 } [.ref (A 100), .int (nI 0), .int i] (T, I, L, R, A) (fun r G' => ((∃ k, k < n ∧ i = nI k ∧ r = some (.int (I 106 k))) ∨ ((i < 0 ∨ nI n ≤ i) ∧ r = some (.int (-1)))) ∧ G' = (T, I, L, R, A)) := by
  refine hM.of (by decide +kernel) (Nat.le_of_ble_eq_true rfl) ?_
  intro z hl h0 hD hS hN C E
  subst hl; subst h0; subst hD; subst hS
  have C : hC z RX10 cX10_byteOf := C
  have hZ := E.2.2.2.1
  show hX z 0 0 (T, I, L, R, A) [(0, .ref (A 100)), (1, .int (nI 0)), (2, .int i)] 0 []
  refine x_iload_n C dX10_byteOf_0 1 rfl rfl ?_
  refine x_tableIn (off := 27) (tgt := 28) C dX10_byteOf_1 (by decide +kernel) (by decide +kernel) (by decide +kernel) (by decide) ?_
  refine x_aload_n C dX10_byteOf_28 0 rfl rfl ?_
  refine x_getrN C fl_X10_30 (xO.1 100 _ rfl).1 rfl (xO.2.1 100 3 _ rfl) dX10_byteOf_29 ?_
  refine x_iload_n C dX10_byteOf_32 2 rfl rfl ?_
  refine x_callV C (ok_X4_at 105 106 160 n (xO.1 105 _ rfl).1 (xO.2.1 105 0 _ rfl) (xO.1 106 _ rfl).1 (by decide) hn hc i) mv_X4_at ml_X10_145 (xO.1 105 _ rfl).1 rfl rfl rfl (Nat.le_of_ble_eq_true rfl) (hrm (rm := { frames := 0, cells := 0, slots := 0, locals := 0 }) hZ ⟨Nat.le_of_ble_eq_true rfl, Nat.le_of_ble_eq_true rfl⟩) (hcs hZ ⟨Nat.le_of_ble_eq_true rfl, Nat.le_of_ble_eq_true rfl⟩) dX10_byteOf_33 (fun v G' hp => ?_)
  obtain ⟨hq, rfl⟩ := hp
  rcases hq with ⟨k, h1, h2, rfl⟩ | ⟨h1, rfl⟩
  · show hX z 0 0 (T, I, L, R, A) [(0, .ref (A 100)), (1, .int (nI 0)), (2, .int i)] 36 [.int (I 106 k)]
    exact x_iret C E (Nat.le_of_ble_eq_true rfl) (Nat.le_of_ble_eq_true rfl) dX10_byteOf_36 (⟨Or.inl ⟨k, h1, h2, rfl⟩, rfl⟩)
  · show hX z 0 0 (T, I, L, R, A) [(0, .ref (A 100)), (1, .int (nI 0)), (2, .int i)] 36 [.int (-1)]
    exact x_iret C E (Nat.le_of_ble_eq_true rfl) (Nat.le_of_ble_eq_true rfl) dX10_byteOf_36 (⟨Or.inr ⟨h1, rfl⟩, rfl⟩)

set_option maxHeartbeats 4000000 in
set_option maxRecDepth 100000 in
theorem ok1_X10_byteOf {l : Launch} {a0 : Nat} {D : va_G} {sa : Nat → Nat} {T : Nat → Option hKd} {I : Nat → Nat → Int32} {L : Nat → Nat → Int64} {R : Nat → Nat → Option Nat} {A : Nat → Nat} (xO : isX T R A a0) (hsa : ∀ k, k < 5 → sa k = A (90 + k)) (n : Nat) (hn : I 107 1 = nI n) (hc : n ≤ 160) (i : Int32) : hM l a0 D sa yX10_byteOf cX10_byteOf 3 (some .int) { frames := 1, cells := 0, slots := 0, locals := 21 } [.ref (A 100), .int (nI 1), .int i] (T, I, L, R, A) (fun r G' => ((∃ k, k < n ∧ i = nI k ∧ r = some (.int (I 108 k))) ∨ ((i < 0 ∨ nI n ≤ i) ∧ r = some (.int (-1)))) ∧ G' = (T, I, L, R, A)) := by
  refine hM.of (by decide +kernel) (Nat.le_of_ble_eq_true rfl) ?_
  intro z hl h0 hD hS hN C E
  subst hl; subst h0; subst hD; subst hS
  have C : hC z RX10 cX10_byteOf := C
  have hZ := E.2.2.2.1
  show hX z 0 0 (T, I, L, R, A) [(0, .ref (A 100)), (1, .int (nI 1)), (2, .int i)] 0 []
  refine x_iload_n C dX10_byteOf_0 1 rfl rfl ?_
  refine x_tableIn (off := 36) (tgt := 37) C dX10_byteOf_1 (by decide +kernel) (by decide +kernel) (by decide +kernel) (by decide) ?_
  refine x_aload_n C dX10_byteOf_37 0 rfl rfl ?_
  refine x_getrN C fl_X10_33 (xO.1 100 _ rfl).1 rfl (xO.2.1 100 4 _ rfl) dX10_byteOf_38 ?_
  refine x_iload_n C dX10_byteOf_41 2 rfl rfl ?_
  refine x_callV C (ok_X4_at 107 108 160 n (xO.1 107 _ rfl).1 (xO.2.1 107 0 _ rfl) (xO.1 108 _ rfl).1 (by decide) hn hc i) mv_X4_at ml_X10_145 (xO.1 107 _ rfl).1 rfl rfl rfl (Nat.le_of_ble_eq_true rfl) (hrm (rm := { frames := 0, cells := 0, slots := 0, locals := 0 }) hZ ⟨Nat.le_of_ble_eq_true rfl, Nat.le_of_ble_eq_true rfl⟩) (hcs hZ ⟨Nat.le_of_ble_eq_true rfl, Nat.le_of_ble_eq_true rfl⟩) dX10_byteOf_42 (fun v G' hp => ?_)
  obtain ⟨hq, rfl⟩ := hp
  rcases hq with ⟨k, h1, h2, rfl⟩ | ⟨h1, rfl⟩
  · show hX z 0 0 (T, I, L, R, A) [(0, .ref (A 100)), (1, .int (nI 1)), (2, .int i)] 45 [.int (I 108 k)]
    exact x_iret C E (Nat.le_of_ble_eq_true rfl) (Nat.le_of_ble_eq_true rfl) dX10_byteOf_45 (⟨Or.inl ⟨k, h1, h2, rfl⟩, rfl⟩)
  · show hX z 0 0 (T, I, L, R, A) [(0, .ref (A 100)), (1, .int (nI 1)), (2, .int i)] 45 [.int (-1)]
    exact x_iret C E (Nat.le_of_ble_eq_true rfl) (Nat.le_of_ble_eq_true rfl) dX10_byteOf_45 (⟨Or.inr ⟨h1, rfl⟩, rfl⟩)

set_option maxHeartbeats 4000000 in
set_option maxRecDepth 100000 in
theorem ok2_X10_byteOf {l : Launch} {a0 : Nat} {D : va_G} {sa : Nat → Nat} {T : Nat → Option hKd} {I : Nat → Nat → Int32} {L : Nat → Nat → Int64} {R : Nat → Nat → Option Nat} {A : Nat → Nat} (xO : isX T R A a0) (hsa : ∀ k, k < 5 → sa k = A (90 + k)) (n : Nat) (hn : I 103 1 = nI n) (hc : n ≤ 64) (i : Int32) : hM l a0 D sa yX10_byteOf cX10_byteOf 3 (some .int) { frames := 1, cells := 0, slots := 0, locals := 21 } [.ref (A 100), .int (nI 2), .int i] (T, I, L, R, A) (fun r G' => ((∃ k, k < n ∧ i = nI k ∧ r = some (.int (I 104 k))) ∨ ((i < 0 ∨ nI n ≤ i) ∧ r = some (.int (-1)))) ∧ G' = (T, I, L, R, A)) := by
  refine hM.of (by decide +kernel) (Nat.le_of_ble_eq_true rfl) ?_
  intro z hl h0 hD hS hN C E
  subst hl; subst h0; subst hD; subst hS
  have C : hC z RX10 cX10_byteOf := C
  have hZ := E.2.2.2.1
  show hX z 0 0 (T, I, L, R, A) [(0, .ref (A 100)), (1, .int (nI 2)), (2, .int i)] 0 []
  refine x_iload_n C dX10_byteOf_0 1 rfl rfl ?_
  refine x_tableIn (off := 45) (tgt := 46) C dX10_byteOf_1 (by decide +kernel) (by decide +kernel) (by decide +kernel) (by decide) ?_
  refine x_aload_n C dX10_byteOf_46 0 rfl rfl ?_
  refine x_getrN C fl_X10_26 (xO.1 100 _ rfl).1 rfl (xO.2.1 100 2 _ rfl) dX10_byteOf_47 ?_
  refine x_iload_n C dX10_byteOf_50 2 rfl rfl ?_
  refine x_callV C (ok_X4_at 103 104 64 n (xO.1 103 _ rfl).1 (xO.2.1 103 0 _ rfl) (xO.1 104 _ rfl).1 (by decide) hn hc i) mv_X4_at ml_X10_145 (xO.1 103 _ rfl).1 rfl rfl rfl (Nat.le_of_ble_eq_true rfl) (hrm (rm := { frames := 0, cells := 0, slots := 0, locals := 0 }) hZ ⟨Nat.le_of_ble_eq_true rfl, Nat.le_of_ble_eq_true rfl⟩) (hcs hZ ⟨Nat.le_of_ble_eq_true rfl, Nat.le_of_ble_eq_true rfl⟩) dX10_byteOf_51 (fun v G' hp => ?_)
  obtain ⟨hq, rfl⟩ := hp
  rcases hq with ⟨k, h1, h2, rfl⟩ | ⟨h1, rfl⟩
  · show hX z 0 0 (T, I, L, R, A) [(0, .ref (A 100)), (1, .int (nI 2)), (2, .int i)] 54 [.int (I 104 k)]
    exact x_iret C E (Nat.le_of_ble_eq_true rfl) (Nat.le_of_ble_eq_true rfl) dX10_byteOf_54 (⟨Or.inl ⟨k, h1, h2, rfl⟩, rfl⟩)
  · show hX z 0 0 (T, I, L, R, A) [(0, .ref (A 100)), (1, .int (nI 2)), (2, .int i)] 54 [.int (-1)]
    exact x_iret C E (Nat.le_of_ble_eq_true rfl) (Nat.le_of_ble_eq_true rfl) dX10_byteOf_54 (⟨Or.inr ⟨h1, rfl⟩, rfl⟩)

theorem lt_32 {i : Int32} (h : i < nI 32) (g : nI 31 < i) : False := by
  have h1 := Int32.lt_iff_toInt_lt.mp h; rw [nI_toInt (by decide)] at h1
  have h2 := Int32.lt_iff_toInt_lt.mp g; rw [nI_toInt (by decide)] at h2
  omega
set_option maxHeartbeats 4000000 in
set_option maxRecDepth 100000 in
theorem bi_X10_hash {l : Launch} {a0 : Nat} {D : va_G} {sa : Nat → Nat} {T : Nat → Option hKd} {I : Nat → Nat → Int32} {L : Nat → Nat → Int64} {R : Nat → Nat → Option Nat} {A : Nat → Nat} (xO : isX T R A a0) (hsa : ∀ k, k < 5 → sa k = A (90 + k)) (ns : Nat) (hns : I 100 8 = nI ns) (hn4 : ns ≤ 4) (sn : Nat) (hsn : sn < ns) (S P : Nat) (hSd : isSd T R A a0 S P) (hRs : R 102 sn = some S) (i : Int32) (hbd : i < 0 ∨ nI 31 < i) : hM l a0 D sa yX10_hash cX10_hash 4 (some .int) { frames := 1, cells := 0, slots := 0, locals := 21 } [.ref (A 100), .int (nI sn), .int i] (T, I, L, R, A) (fun r G' => r = some (.int (-2)) ∧ G' = (T, I, L, R, A)) := by
  refine hM.of (by decide +kernel) (Nat.le_of_ble_eq_true rfl) ?_
  intro z hl h0 hD hS hN C E
  subst hl; subst h0; subst hD; subst hS
  have C : hC z RX10 cX10_hash := C
  have hZ := E.2.2.2.1
  show hX z 0 0 (T, I, L, R, A) [(0, .ref (A 100)), (1, .int (nI sn)), (2, .int i)] 0 []
  refine x_aload_n C dX10_hash_0 0 rfl rfl ?_
  refine x_iload_n C dX10_hash_1 1 rfl rfl ?_
  refine x_callV C (ok_X10_sideAt xO hsa ns hns hn4 sn S hsn hRs) mv_X10_sideAt ml_X10_97 (xO.1 100 _ rfl).1 rfl rfl rfl (Nat.le_of_ble_eq_true rfl) (hrm (rm := { frames := 0, cells := 0, slots := 0, locals := 0 }) hZ ⟨Nat.le_of_ble_eq_true rfl, Nat.le_of_ble_eq_true rfl⟩) (hcs hZ ⟨Nat.le_of_ble_eq_true rfl, Nat.le_of_ble_eq_true rfl⟩) dX10_hash_2 (fun v G' hp => ?_)
  obtain ⟨rfl, rfl⟩ := hp
  show hX z 0 0 (T, I, L, R, A) [(0, .ref (A 100)), (1, .int (nI sn)), (2, .int i)] 5 [.ref (A S)]
  refine x_astore_n (lv' := [(3, .ref (A S)), (0, .ref (A 100)), (1, .int (nI sn)), (2, .int i)]) C dX10_hash_5 rfl (Nat.lt_of_lt_of_eq (by decide) hN.symm) rfl ?_
  refine x_aload_n C dX10_hash_6 0 rfl rfl ?_
  refine x_ifnull C dX10_hash_7 ?_
  refine x_iload_n C dX10_hash_10 3 rfl rfl ?_
  refine x_if_lt (tgt := 20) C dX10_hash_11 (by decide) (fun c11 => ?_) (fun c11 => ?_)
  · refine x_bipush (v := (-2)) C dX10_hash_20 (by decide +kernel) ?_
    exact x_iret C E (Nat.le_of_ble_eq_true rfl) (Nat.le_of_ble_eq_true rfl) dX10_hash_22 (⟨rfl, rfl⟩)
  · refine x_iload_n C dX10_hash_14 3 rfl rfl ?_
    refine x_bipush (v := nI 32) C dX10_hash_15 (by decide +kernel) ?_
    refine x_icmp_lt (tgt := 23) C dX10_hash_17 (by decide) (fun c17 => ?_) (fun c17 => ?_)
    · exact False.elim (by rcases hbd with h | h; exact c11 h; exact lt_32 c17 h)
    · refine x_bipush (v := (-2)) C dX10_hash_20 (by decide +kernel) ?_
      exact x_iret C E (Nat.le_of_ble_eq_true rfl) (Nat.le_of_ble_eq_true rfl) dX10_hash_22 (⟨rfl, rfl⟩)

set_option maxHeartbeats 4000000 in
set_option maxRecDepth 100000 in
theorem ok_X10_hash {l : Launch} {a0 : Nat} {D : va_G} {sa : Nat → Nat} {T : Nat → Option hKd} {I : Nat → Nat → Int32} {L : Nat → Nat → Int64} {R : Nat → Nat → Option Nat} {A : Nat → Nat} (xO : isX T R A a0) (hsa : ∀ k, k < 5 → sa k = A (90 + k)) (ns : Nat) (hns : I 100 8 = nI ns) (hn4 : ns ≤ 4) (sn : Nat) (hsn : sn < ns) (S P : Nat) (hSd : isSd T R A a0 S P) (hRs : R 102 sn = some S) (k : Nat) (hk : k < 32) : hM l a0 D sa yX10_hash cX10_hash 4 (some .int) { frames := 1, cells := 0, slots := 0, locals := 21 } [.ref (A 100), .int (nI sn), .int (nI k)] (T, I, L, R, A) (fun r G' => r = some (.int (I (S + 4 + 1 + 1) k)) ∧ G' = (T, I, L, R, A)) := by
  refine hM.of (by decide +kernel) (Nat.le_of_ble_eq_true rfl) ?_
  intro z hl h0 hD hS hN C E
  subst hl; subst h0; subst hD; subst hS
  have C : hC z RX10 cX10_hash := C
  have hZ := E.2.2.2.1
  show hX z 0 0 (T, I, L, R, A) [(0, .ref (A 100)), (1, .int (nI sn)), (2, .int (nI k))] 0 []
  refine x_aload_n C dX10_hash_0 0 rfl rfl ?_
  refine x_iload_n C dX10_hash_1 1 rfl rfl ?_
  refine x_callV C (ok_X10_sideAt xO hsa ns hns hn4 sn S hsn hRs) mv_X10_sideAt ml_X10_97 (xO.1 100 _ rfl).1 rfl rfl rfl (Nat.le_of_ble_eq_true rfl) (hrm (rm := { frames := 0, cells := 0, slots := 0, locals := 0 }) hZ ⟨Nat.le_of_ble_eq_true rfl, Nat.le_of_ble_eq_true rfl⟩) (hcs hZ ⟨Nat.le_of_ble_eq_true rfl, Nat.le_of_ble_eq_true rfl⟩) dX10_hash_2 (fun v G' hp => ?_)
  obtain ⟨rfl, rfl⟩ := hp
  show hX z 0 0 (T, I, L, R, A) [(0, .ref (A 100)), (1, .int (nI sn)), (2, .int (nI k))] 5 [.ref (A S)]
  refine x_astore_n (lv' := [(3, .ref (A S)), (0, .ref (A 100)), (1, .int (nI sn)), (2, .int (nI k))]) C dX10_hash_5 rfl (Nat.lt_of_lt_of_eq (by decide) hN.symm) rfl ?_
  refine x_aload_n C dX10_hash_6 0 rfl rfl ?_
  refine x_ifnull C dX10_hash_7 ?_
  refine x_iload_n C dX10_hash_10 3 rfl rfl ?_
  refine x_if_ltN (tgt := 20) C (by omega) dX10_hash_11 (by decide) ?_
  refine x_iload_n C dX10_hash_14 3 rfl rfl ?_
  refine x_bipush (v := nI 32) C dX10_hash_15 (by decide +kernel) ?_
  refine x_icmp_ltN (tgt := 23) C (by omega) (by omega) dX10_hash_17 (by decide) (fun c17 => ?_) (fun c17 => absurd c17 (by omega))
  refine x_aload_n C dX10_hash_23 0 rfl rfl ?_
  refine x_getrN C fl_X10_101 hSd.1.1 rfl hSd.2.1.2.2.2.2 dX10_hash_24 ?_
  refine x_getrN C fl_X10_148 hSd.2.2.2.1 rfl (hSd.2.2.2.2.2 1 (by decide)).1 dX10_hash_27 ?_
  refine x_iload_n C dX10_hash_30 3 rfl rfl ?_
  refine x_ialdN C (hSd.2.2.2.2.2 1 (by decide)).2.1 (by omega) (by omega) dX10_hash_31 ?_
  exact x_iret C E (Nat.le_of_ble_eq_true rfl) (Nat.le_of_ble_eq_true rfl) dX10_hash_32 (⟨rfl, rfl⟩)

set_option maxHeartbeats 4000000 in
set_option maxRecDepth 100000 in
theorem ok_X10_about {l : Launch} {a0 : Nat} {D : va_G} {sa : Nat → Nat} {T : Nat → Option hKd} {I : Nat → Nat → Int32} {L : Nat → Nat → Int64} {R : Nat → Nat → Option Nat} {A : Nat → Nat} (xO : isX T R A a0) (hsa : ∀ k, k < 5 → sa k = A (90 + k)) (ns : Nat) (hns : I 100 8 = nI ns) (hn4 : ns ≤ 4) (sn : Nat) (hsn : sn < ns) (S P : Nat) (hSd : isSd T R A a0 S P) (ha : Nat) (hha : I S 2 = nI ha) (ha2 : ha < 2) (hS3 : 300 ≤ S) (hP : isPt T R A a0 P) (kn : Nat → Bool) (ms : Nat) (sz : Nat → Nat) (tk : Nat → Nat → Nat) (hs : Bool) (hI : ptI I P kn ms sz tk hs) (hP2 : P + 10 ≤ 300) (hP1 : 200 ≤ P) (hst : stI I) (cp cq cr cs : Nat) (h4 : cv4 R cp cq cr cs) (hRs : R 102 sn = some S) (σ : sgT) (hσ : stE σ I (S + 4)) (hb : bS σ) (nx : Nat) (hnx : σ 7 13 = nI nx) (hn31 : nx < 2 ^ 30) (pn : Nat) (hpn : I S 1 = nI pn) (wh : Int32) : hM l a0 D sa yX10_about cX10_about 4 (some .int) { frames := 2, cells := 0, slots := 0, locals := 41 } [.ref (A 100), .int (nI sn), .int wh] (T, I, L, R, A) (fun r G' => r = some (.int (abF pn ha nx (decide (ms ≤ nx)) σ wh)) ∧ G' = (T, I, L, R, A)) := by
  refine hM.of (by decide +kernel) (Nat.le_of_ble_eq_true rfl) ?_
  intro z hl h0 hD hS hN C E
  subst hl; subst h0; subst hD; subst hS
  have C : hC z RX10 cX10_about := C
  have hZ := E.2.2.2.1
  show hX z 0 0 (T, I, L, R, A) [(0, .ref (A 100)), (1, .int (nI sn)), (2, .int wh)] 0 []
  refine x_aload_n C dX10_about_0 0 rfl rfl ?_
  refine x_iload_n C dX10_about_1 1 rfl rfl ?_
  refine x_callV C (ok_X10_sideAt xO hsa ns hns hn4 sn S hsn hRs) mv_X10_sideAt ml_X10_97 (xO.1 100 _ rfl).1 rfl rfl rfl (Nat.le_of_ble_eq_true rfl) (hrm (rm := { frames := 0, cells := 0, slots := 0, locals := 0 }) hZ ⟨Nat.le_of_ble_eq_true rfl, Nat.le_of_ble_eq_true rfl⟩) (hcs hZ ⟨Nat.le_of_ble_eq_true rfl, Nat.le_of_ble_eq_true rfl⟩) dX10_about_2 (fun v G' hp => ?_)
  obtain ⟨rfl, rfl⟩ := hp
  show hX z 0 0 (T, I, L, R, A) [(0, .ref (A 100)), (1, .int (nI sn)), (2, .int wh)] 5 [.ref (A S)]
  refine x_astore_n (lv' := [(3, .ref (A S)), (0, .ref (A 100)), (1, .int (nI sn)), (2, .int wh)]) C dX10_about_5 rfl (Nat.lt_of_lt_of_eq (by decide) hN.symm) rfl ?_
  refine x_aload_n C dX10_about_6 0 rfl rfl ?_
  refine x_ifnonnull (tgt := 15) C dX10_about_7 (by decide) ?_
  refine x_aload_n C dX10_about_15 0 rfl rfl ?_
  refine x_iload_n C dX10_about_16 3 rfl rfl ?_
  refine x_callV C (ok_X6_tell S P hSd ha hha ha2 hS3 hP kn ms sz tk hs hI σ hσ hb nx hnx hn31 pn hpn wh) mv_X6_tell ml_X10_151 hSd.1.1 rfl rfl rfl (Nat.le_of_ble_eq_true rfl) (hrm (rm := { frames := 0, cells := 0, slots := 0, locals := 0 }) hZ ⟨Nat.le_of_ble_eq_true rfl, Nat.le_of_ble_eq_true rfl⟩) (hcs hZ ⟨Nat.le_of_ble_eq_true rfl, Nat.le_of_ble_eq_true rfl⟩) dX10_about_17 (fun v G' hp => ?_)
  obtain ⟨rfl, rfl⟩ := hp
  show hX z 0 0 (T, I, L, R, A) [(3, .ref (A S)), (0, .ref (A 100)), (1, .int (nI sn)), (2, .int wh)] 20 [.int (abF pn ha nx (decide (ms ≤ nx)) σ wh)]
  exact x_iret C E (Nat.le_of_ble_eq_true rfl) (Nat.le_of_ble_eq_true rfl) dX10_about_20 (⟨rfl, rfl⟩)

set_option maxHeartbeats 4000000 in
set_option maxRecDepth 100000 in
theorem b1_X10_same {l : Launch} {a0 : Nat} {D : va_G} {sa : Nat → Nat} {T : Nat → Option hKd} {I : Nat → Nat → Int32} {L : Nat → Nat → Int64} {R : Nat → Nat → Option Nat} {A : Nat → Nat} (xO : isX T R A a0) (hsa : ∀ k, k < 5 → sa k = A (90 + k)) (ns : Nat) (hns : I 100 8 = nI ns) (hn4 : ns ≤ 4) (p : Int32) (hb : p < 0 ∨ nI ns ≤ p)(sn S : Nat) (hsn : sn < ns) (hRs : R 102 sn = some S) : hM l a0 D sa yX10_same cX10_same 5 (some .int) { frames := 1, cells := 0, slots := 0, locals := 21 } [.ref (A 100), .int p, .int (nI sn)] (T, I, L, R, A) (fun r G' => r = some (.int (-2)) ∧ G' = (T, I, L, R, A)) := by
  refine hM.of (by decide +kernel) (Nat.le_of_ble_eq_true rfl) ?_
  intro z hl h0 hD hS hN C E
  subst hl; subst h0; subst hD; subst hS
  have C : hC z RX10 cX10_same := C
  have hZ := E.2.2.2.1
  show hX z 0 0 (T, I, L, R, A) [(0, .ref (A 100)), (1, .int p), (2, .int (nI sn))] 0 []
  refine x_aload_n C dX10_same_0 0 rfl rfl ?_
  refine x_iload_n C dX10_same_1 1 rfl rfl ?_
  refine x_callV C (bd_X10_sideAt xO hsa ns hns hn4 p hb) mv_X10_sideAt ml_X10_97 (xO.1 100 _ rfl).1 rfl rfl rfl (Nat.le_of_ble_eq_true rfl) (hrm (rm := { frames := 0, cells := 0, slots := 0, locals := 0 }) hZ ⟨Nat.le_of_ble_eq_true rfl, Nat.le_of_ble_eq_true rfl⟩) (hcs hZ ⟨Nat.le_of_ble_eq_true rfl, Nat.le_of_ble_eq_true rfl⟩) dX10_same_2 (fun v G' hp => ?_)
  obtain ⟨rfl, rfl⟩ := hp
  show hX z 0 0 (T, I, L, R, A) [(0, .ref (A 100)), (1, .int p), (2, .int (nI sn))] 5 [.null]
  refine x_astore_nN (lv' := [(3, .null), (0, .ref (A 100)), (1, .int p), (2, .int (nI sn))]) C dX10_same_5 rfl (Nat.lt_of_lt_of_eq (by decide) hN.symm) rfl ?_
  refine x_aload_n C dX10_same_6 1 rfl rfl ?_
  refine x_iload_n C dX10_same_7 3 rfl rfl ?_
  refine x_callV C (ok_X10_sideAt xO hsa ns hns hn4 sn S hsn hRs) mv_X10_sideAt ml_X10_97 (xO.1 100 _ rfl).1 rfl rfl rfl (Nat.le_of_ble_eq_true rfl) (hrm (rm := { frames := 0, cells := 0, slots := 0, locals := 0 }) hZ ⟨Nat.le_of_ble_eq_true rfl, Nat.le_of_ble_eq_true rfl⟩) (hcs hZ ⟨Nat.le_of_ble_eq_true rfl, Nat.le_of_ble_eq_true rfl⟩) dX10_same_8 (fun v G' hp => ?_)
  obtain ⟨rfl, rfl⟩ := hp
  show hX z 0 0 (T, I, L, R, A) [(3, .null), (0, .ref (A 100)), (1, .int p), (2, .int (nI sn))] 11 [.ref (A S)]
  refine x_astore (lv' := [(4, .ref (A S)), (3, .null), (0, .ref (A 100)), (1, .int p), (2, .int (nI sn))]) C dX10_same_11 (Nat.lt_of_lt_of_eq (by decide) hN.symm) rfl ?_
  refine x_aload_nN C dX10_same_13 1 rfl rfl ?_
  refine x_ifnullN (tgt := 22) C dX10_same_14 (by decide) ?_
  refine x_bipush (v := (-2)) C dX10_same_22 (by decide +kernel) ?_
  exact x_iret C E (Nat.le_of_ble_eq_true rfl) (Nat.le_of_ble_eq_true rfl) dX10_same_24 (⟨rfl, rfl⟩)

set_option maxHeartbeats 4000000 in
set_option maxRecDepth 100000 in
theorem b2_X10_same {l : Launch} {a0 : Nat} {D : va_G} {sa : Nat → Nat} {T : Nat → Option hKd} {I : Nat → Nat → Int32} {L : Nat → Nat → Int64} {R : Nat → Nat → Option Nat} {A : Nat → Nat} (xO : isX T R A a0) (hsa : ∀ k, k < 5 → sa k = A (90 + k)) (ns : Nat) (hns : I 100 8 = nI ns) (hn4 : ns ≤ 4) (p : Int32) (hb : p < 0 ∨ nI ns ≤ p) (sn S : Nat) (hsn : sn < ns) (hRs : R 102 sn = some S) : hM l a0 D sa yX10_same cX10_same 5 (some .int) { frames := 1, cells := 0, slots := 0, locals := 21 } [.ref (A 100), .int (nI sn), .int p] (T, I, L, R, A) (fun r G' => r = some (.int (-2)) ∧ G' = (T, I, L, R, A)) := by
  refine hM.of (by decide +kernel) (Nat.le_of_ble_eq_true rfl) ?_
  intro z hl h0 hD hS hN C E
  subst hl; subst h0; subst hD; subst hS
  have C : hC z RX10 cX10_same := C
  have hZ := E.2.2.2.1
  show hX z 0 0 (T, I, L, R, A) [(0, .ref (A 100)), (1, .int (nI sn)), (2, .int p)] 0 []
  refine x_aload_n C dX10_same_0 0 rfl rfl ?_
  refine x_iload_n C dX10_same_1 1 rfl rfl ?_
  refine x_callV C (ok_X10_sideAt xO hsa ns hns hn4 sn S hsn hRs) mv_X10_sideAt ml_X10_97 (xO.1 100 _ rfl).1 rfl rfl rfl (Nat.le_of_ble_eq_true rfl) (hrm (rm := { frames := 0, cells := 0, slots := 0, locals := 0 }) hZ ⟨Nat.le_of_ble_eq_true rfl, Nat.le_of_ble_eq_true rfl⟩) (hcs hZ ⟨Nat.le_of_ble_eq_true rfl, Nat.le_of_ble_eq_true rfl⟩) dX10_same_2 (fun v G' hp => ?_)
  obtain ⟨rfl, rfl⟩ := hp
  show hX z 0 0 (T, I, L, R, A) [(0, .ref (A 100)), (1, .int (nI sn)), (2, .int p)] 5 [.ref (A S)]
  refine x_astore_n (lv' := [(3, .ref (A S)), (0, .ref (A 100)), (1, .int (nI sn)), (2, .int p)]) C dX10_same_5 rfl (Nat.lt_of_lt_of_eq (by decide) hN.symm) rfl ?_
  refine x_aload_n C dX10_same_6 1 rfl rfl ?_
  refine x_iload_n C dX10_same_7 3 rfl rfl ?_
  refine x_callV C (bd_X10_sideAt xO hsa ns hns hn4 p hb) mv_X10_sideAt ml_X10_97 (xO.1 100 _ rfl).1 rfl rfl rfl (Nat.le_of_ble_eq_true rfl) (hrm (rm := { frames := 0, cells := 0, slots := 0, locals := 0 }) hZ ⟨Nat.le_of_ble_eq_true rfl, Nat.le_of_ble_eq_true rfl⟩) (hcs hZ ⟨Nat.le_of_ble_eq_true rfl, Nat.le_of_ble_eq_true rfl⟩) dX10_same_8 (fun v G' hp => ?_)
  obtain ⟨rfl, rfl⟩ := hp
  show hX z 0 0 (T, I, L, R, A) [(3, .ref (A S)), (0, .ref (A 100)), (1, .int (nI sn)), (2, .int p)] 11 [.null]
  refine x_astoreN (lv' := [(4, .null), (3, .ref (A S)), (0, .ref (A 100)), (1, .int (nI sn)), (2, .int p)]) C dX10_same_11 (Nat.lt_of_lt_of_eq (by decide) hN.symm) rfl ?_
  refine x_aload_n C dX10_same_13 1 rfl rfl ?_
  refine x_ifnull C dX10_same_14 ?_
  refine x_aloadN C dX10_same_17 0 rfl ?_
  refine x_ifnonnullN C dX10_same_19 ?_
  refine x_bipush (v := (-2)) C dX10_same_22 (by decide +kernel) ?_
  exact x_iret C E (Nat.le_of_ble_eq_true rfl) (Nat.le_of_ble_eq_true rfl) dX10_same_24 (⟨rfl, rfl⟩)

set_option maxHeartbeats 4000000 in
set_option maxRecDepth 100000 in
theorem bd_X10_same {l : Launch} {a0 : Nat} {D : va_G} {sa : Nat → Nat} {T : Nat → Option hKd} {I : Nat → Nat → Int32} {L : Nat → Nat → Int64} {R : Nat → Nat → Option Nat} {A : Nat → Nat} (xO : isX T R A a0) (hsa : ∀ k, k < 5 → sa k = A (90 + k)) (ns : Nat) (hns : I 100 8 = nI ns) (hn4 : ns ≤ 4) (p : Int32) (hb : p < 0 ∨ nI ns ≤ p) (q : Int32) (hb2 : q < 0 ∨ nI ns ≤ q) : hM l a0 D sa yX10_same cX10_same 5 (some .int) { frames := 1, cells := 0, slots := 0, locals := 21 } [.ref (A 100), .int p, .int q] (T, I, L, R, A) (fun r G' => r = some (.int (-2)) ∧ G' = (T, I, L, R, A)) := by
  refine hM.of (by decide +kernel) (Nat.le_of_ble_eq_true rfl) ?_
  intro z hl h0 hD hS hN C E
  subst hl; subst h0; subst hD; subst hS
  have C : hC z RX10 cX10_same := C
  have hZ := E.2.2.2.1
  show hX z 0 0 (T, I, L, R, A) [(0, .ref (A 100)), (1, .int p), (2, .int q)] 0 []
  refine x_aload_n C dX10_same_0 0 rfl rfl ?_
  refine x_iload_n C dX10_same_1 1 rfl rfl ?_
  refine x_callV C (bd_X10_sideAt xO hsa ns hns hn4 p hb) mv_X10_sideAt ml_X10_97 (xO.1 100 _ rfl).1 rfl rfl rfl (Nat.le_of_ble_eq_true rfl) (hrm (rm := { frames := 0, cells := 0, slots := 0, locals := 0 }) hZ ⟨Nat.le_of_ble_eq_true rfl, Nat.le_of_ble_eq_true rfl⟩) (hcs hZ ⟨Nat.le_of_ble_eq_true rfl, Nat.le_of_ble_eq_true rfl⟩) dX10_same_2 (fun v G' hp => ?_)
  obtain ⟨rfl, rfl⟩ := hp
  show hX z 0 0 (T, I, L, R, A) [(0, .ref (A 100)), (1, .int p), (2, .int q)] 5 [.null]
  refine x_astore_nN (lv' := [(3, .null), (0, .ref (A 100)), (1, .int p), (2, .int q)]) C dX10_same_5 rfl (Nat.lt_of_lt_of_eq (by decide) hN.symm) rfl ?_
  refine x_aload_n C dX10_same_6 1 rfl rfl ?_
  refine x_iload_n C dX10_same_7 3 rfl rfl ?_
  refine x_callV C (bd_X10_sideAt xO hsa ns hns hn4 q hb2) mv_X10_sideAt ml_X10_97 (xO.1 100 _ rfl).1 rfl rfl rfl (Nat.le_of_ble_eq_true rfl) (hrm (rm := { frames := 0, cells := 0, slots := 0, locals := 0 }) hZ ⟨Nat.le_of_ble_eq_true rfl, Nat.le_of_ble_eq_true rfl⟩) (hcs hZ ⟨Nat.le_of_ble_eq_true rfl, Nat.le_of_ble_eq_true rfl⟩) dX10_same_8 (fun v G' hp => ?_)
  obtain ⟨rfl, rfl⟩ := hp
  show hX z 0 0 (T, I, L, R, A) [(3, .null), (0, .ref (A 100)), (1, .int p), (2, .int q)] 11 [.null]
  refine x_astoreN (lv' := [(4, .null), (3, .null), (0, .ref (A 100)), (1, .int p), (2, .int q)]) C dX10_same_11 (Nat.lt_of_lt_of_eq (by decide) hN.symm) rfl ?_
  refine x_aload_nN C dX10_same_13 1 rfl rfl ?_
  refine x_ifnullN (tgt := 22) C dX10_same_14 (by decide) ?_
  refine x_bipush (v := (-2)) C dX10_same_22 (by decide +kernel) ?_
  exact x_iret C E (Nat.le_of_ble_eq_true rfl) (Nat.le_of_ble_eq_true rfl) dX10_same_24 (⟨rfl, rfl⟩)

set_option maxHeartbeats 4000000 in
set_option maxRecDepth 100000 in
theorem no_X10_same {l : Launch} {a0 : Nat} {D : va_G} {sa : Nat → Nat} {T : Nat → Option hKd} {I : Nat → Nat → Int32} {L : Nat → Nat → Int64} {R : Nat → Nat → Option Nat} {A : Nat → Nat} (xO : isX T R A a0) (hsa : ∀ k, k < 5 → sa k = A (90 + k)) (ns : Nat) (hns : I 100 8 = nI ns) (hn4 : ns ≤ 4) (sn tn : Nat) (hsn : sn < ns) (htn : tn < ns) (S P : Nat) (hSdS : isSd T R A a0 S P) (hRS : R 102 sn = some S) (hTP : T P = some (.inr 3)) (ha ms nx : Nat) (hhaS : I S 2 = nI ha) (ha2S : ha < 2) (hmsS : I P 4 = nI ms) (hnxS : I (S + 4) 13 = nI nx) (h31S : ms < 2 ^ 31 ∧ nx < 2 ^ 31 ∧ ha < 2) (U Q : Nat) (hSdU : isSd T R A a0 U Q) (hRU : R 102 tn = some U) (hTQ : T Q = some (.inr 3)) (hb mt ny : Nat) (hhaU : I U 2 = nI hb) (ha2U : hb < 2) (hmsU : I Q 4 = nI mt) (hnxU : I (U + 4) 13 = nI ny) (h31U : mt < 2 ^ 31 ∧ ny < 2 ^ 31 ∧ hb < 2) (hnd : nx < ms ∨ ny < mt) : hM l a0 D sa yX10_same cX10_same 5 (some .int) { frames := 1, cells := 0, slots := 0, locals := 21 } [.ref (A 100), .int (nI sn), .int (nI tn)] (T, I, L, R, A) (fun r G' => r = some (.int (-3)) ∧ G' = (T, I, L, R, A)) := by
  refine hM.of (by decide +kernel) (Nat.le_of_ble_eq_true rfl) ?_
  intro z hl h0 hD hS hN C E
  subst hl; subst h0; subst hD; subst hS
  have C : hC z RX10 cX10_same := C
  have hZ := E.2.2.2.1
  show hX z 0 0 (T, I, L, R, A) [(0, .ref (A 100)), (1, .int (nI sn)), (2, .int (nI tn))] 0 []
  refine x_aload_n C dX10_same_0 0 rfl rfl ?_
  refine x_iload_n C dX10_same_1 1 rfl rfl ?_
  refine x_callV C (ok_X10_sideAt xO hsa ns hns hn4 sn S hsn hRS) mv_X10_sideAt ml_X10_97 (xO.1 100 _ rfl).1 rfl rfl rfl (Nat.le_of_ble_eq_true rfl) (hrm (rm := { frames := 0, cells := 0, slots := 0, locals := 0 }) hZ ⟨Nat.le_of_ble_eq_true rfl, Nat.le_of_ble_eq_true rfl⟩) (hcs hZ ⟨Nat.le_of_ble_eq_true rfl, Nat.le_of_ble_eq_true rfl⟩) dX10_same_2 (fun v G' hp => ?_)
  obtain ⟨rfl, rfl⟩ := hp
  show hX z 0 0 (T, I, L, R, A) [(0, .ref (A 100)), (1, .int (nI sn)), (2, .int (nI tn))] 5 [.ref (A S)]
  refine x_astore_n (lv' := [(3, .ref (A S)), (0, .ref (A 100)), (1, .int (nI sn)), (2, .int (nI tn))]) C dX10_same_5 rfl (Nat.lt_of_lt_of_eq (by decide) hN.symm) rfl ?_
  refine x_aload_n C dX10_same_6 1 rfl rfl ?_
  refine x_iload_n C dX10_same_7 3 rfl rfl ?_
  refine x_callV C (ok_X10_sideAt xO hsa ns hns hn4 tn U htn hRU) mv_X10_sideAt ml_X10_97 (xO.1 100 _ rfl).1 rfl rfl rfl (Nat.le_of_ble_eq_true rfl) (hrm (rm := { frames := 0, cells := 0, slots := 0, locals := 0 }) hZ ⟨Nat.le_of_ble_eq_true rfl, Nat.le_of_ble_eq_true rfl⟩) (hcs hZ ⟨Nat.le_of_ble_eq_true rfl, Nat.le_of_ble_eq_true rfl⟩) dX10_same_8 (fun v G' hp => ?_)
  obtain ⟨rfl, rfl⟩ := hp
  show hX z 0 0 (T, I, L, R, A) [(3, .ref (A S)), (0, .ref (A 100)), (1, .int (nI sn)), (2, .int (nI tn))] 11 [.ref (A U)]
  refine x_astore (lv' := [(4, .ref (A U)), (3, .ref (A S)), (0, .ref (A 100)), (1, .int (nI sn)), (2, .int (nI tn))]) C dX10_same_11 (Nat.lt_of_lt_of_eq (by decide) hN.symm) rfl ?_
  refine x_aload_n C dX10_same_13 1 rfl rfl ?_
  refine x_ifnull C dX10_same_14 ?_
  refine x_aload C dX10_same_17 0 rfl ?_
  refine x_ifnonnull (tgt := 25) C dX10_same_19 (by decide) ?_
  refine x_aload_n C dX10_same_25 1 rfl rfl ?_
  refine x_callV C (ok_X6_isDone S P hSdS hTP ms nx ha hmsS hnxS hhaS h31S) mv_X6_isDone ml_X10_116 hSdS.1.1 rfl rfl rfl (Nat.le_of_ble_eq_true rfl) (hrm (rm := { frames := 0, cells := 0, slots := 0, locals := 0 }) hZ ⟨Nat.le_of_ble_eq_true rfl, Nat.le_of_ble_eq_true rfl⟩) (hcs hZ ⟨Nat.le_of_ble_eq_true rfl, Nat.le_of_ble_eq_true rfl⟩) dX10_same_26 (fun v G' hp => ?_)
  obtain ⟨rfl, rfl⟩ := hp
  show hX z 0 0 (T, I, L, R, A) [(4, .ref (A U)), (3, .ref (A S)), (0, .ref (A 100)), (1, .int (nI sn)), (2, .int (nI tn))] 29 [.int (bI (decide (ms ≤ nx)))]
  refine x_if_eq (tgt := 40) C dX10_same_29 (by decide) (fun c29 => ?_) (fun c29 => ?_)
  · refine x_bipush (v := (-3)) C dX10_same_40 (by decide +kernel) ?_
    exact x_iret C E (Nat.le_of_ble_eq_true rfl) (Nat.le_of_ble_eq_true rfl) dX10_same_42 (⟨rfl, rfl⟩)
  · refine x_aload C dX10_same_32 0 rfl ?_
    refine x_callV C (ok_X6_isDone U Q hSdU hTQ mt ny hb hmsU hnxU hhaU h31U) mv_X6_isDone ml_X10_116 hSdU.1.1 rfl rfl rfl (Nat.le_of_ble_eq_true rfl) (hrm (rm := { frames := 0, cells := 0, slots := 0, locals := 0 }) hZ ⟨Nat.le_of_ble_eq_true rfl, Nat.le_of_ble_eq_true rfl⟩) (hcs hZ ⟨Nat.le_of_ble_eq_true rfl, Nat.le_of_ble_eq_true rfl⟩) dX10_same_34 (fun v G' hp => ?_)
    obtain ⟨rfl, rfl⟩ := hp
    show hX z 0 0 (T, I, L, R, A) [(4, .ref (A U)), (3, .ref (A S)), (0, .ref (A 100)), (1, .int (nI sn)), (2, .int (nI tn))] 37 [.int (bI (decide (mt ≤ ny)))]
    refine x_if_ne (tgt := 43) C dX10_same_37 (by decide) (fun c37 => ?_) (fun c37 => ?_)
    · exact False.elim (by rcases hnd with h | h; (· exact c29 (by rw [decide_eq_false (by omega)]; rfl)); (· exact c37 (by rw [decide_eq_false (by omega)]; rfl)))
    · refine x_bipush (v := (-3)) C dX10_same_40 (by decide +kernel) ?_
      exact x_iret C E (Nat.le_of_ble_eq_true rfl) (Nat.le_of_ble_eq_true rfl) dX10_same_42 (⟨rfl, rfl⟩)

set_option maxHeartbeats 4000000 in
set_option maxRecDepth 100000 in
theorem ok_X10_same {l : Launch} {a0 : Nat} {D : va_G} {sa : Nat → Nat} {T : Nat → Option hKd} {I : Nat → Nat → Int32} {L : Nat → Nat → Int64} {R : Nat → Nat → Option Nat} {A : Nat → Nat} (xO : isX T R A a0) (hsa : ∀ k, k < 5 → sa k = A (90 + k)) (ns : Nat) (hns : I 100 8 = nI ns) (hn4 : ns ≤ 4) (sn tn : Nat) (hsn : sn < ns) (htn : tn < ns) (S P : Nat) (hSdS : isSd T R A a0 S P) (hRS : R 102 sn = some S) (hTP : T P = some (.inr 3)) (ha ms nx : Nat) (hhaS : I S 2 = nI ha) (ha2S : ha < 2) (hmsS : I P 4 = nI ms) (hnxS : I (S + 4) 13 = nI nx) (h31S : ms < 2 ^ 31 ∧ nx < 2 ^ 31 ∧ ha < 2) (U Q : Nat) (hSdU : isSd T R A a0 U Q) (hRU : R 102 tn = some U) (hTQ : T Q = some (.inr 3)) (hb mt ny : Nat) (hhaU : I U 2 = nI hb) (ha2U : hb < 2) (hmsU : I Q 4 = nI mt) (hnxU : I (U + 4) 13 = nI ny) (h31U : mt < 2 ^ 31 ∧ ny < 2 ^ 31 ∧ hb < 2) (hdn : ms ≤ nx) (hem : mt ≤ ny) : hM l a0 D sa yX10_same cX10_same 5 (some .int) { frames := 2, cells := 0, slots := 0, locals := 43 } [.ref (A 100), .int (nI sn), .int (nI tn)] (T, I, L, R, A) (fun r G' => (∃ q : Bool, r = some (.int (bI q)) ∧ (q = true ↔ (ha ≠ hb ∧ (∀ u, u < 32 → I (S + 4 + 1 + 1) u = I (U + 4 + 1 + 1) u) ∧ (∀ u, u < 32 → I (S + 4 + 1 + 2) u = I (U + 4 + 1 + 3) u) ∧ ∀ u, u < 32 → I (S + 4 + 1 + 3) u = I (U + 4 + 1 + 2) u))) ∧ G' = (T, I, L, R, A)) := by
  refine hM.of (by decide +kernel) (Nat.le_of_ble_eq_true rfl) ?_
  intro z hl h0 hD hS hN C E
  subst hl; subst h0; subst hD; subst hS
  have C : hC z RX10 cX10_same := C
  have hZ := E.2.2.2.1
  show hX z 0 0 (T, I, L, R, A) [(0, .ref (A 100)), (1, .int (nI sn)), (2, .int (nI tn))] 0 []
  refine x_aload_n C dX10_same_0 0 rfl rfl ?_
  refine x_iload_n C dX10_same_1 1 rfl rfl ?_
  refine x_callV C (ok_X10_sideAt xO hsa ns hns hn4 sn S hsn hRS) mv_X10_sideAt ml_X10_97 (xO.1 100 _ rfl).1 rfl rfl rfl (Nat.le_of_ble_eq_true rfl) (hrm (rm := { frames := 0, cells := 0, slots := 0, locals := 0 }) hZ ⟨Nat.le_of_ble_eq_true rfl, Nat.le_of_ble_eq_true rfl⟩) (hcs hZ ⟨Nat.le_of_ble_eq_true rfl, Nat.le_of_ble_eq_true rfl⟩) dX10_same_2 (fun v G' hp => ?_)
  obtain ⟨rfl, rfl⟩ := hp
  show hX z 0 0 (T, I, L, R, A) [(0, .ref (A 100)), (1, .int (nI sn)), (2, .int (nI tn))] 5 [.ref (A S)]
  refine x_astore_n (lv' := [(3, .ref (A S)), (0, .ref (A 100)), (1, .int (nI sn)), (2, .int (nI tn))]) C dX10_same_5 rfl (Nat.lt_of_lt_of_eq (by decide) hN.symm) rfl ?_
  refine x_aload_n C dX10_same_6 1 rfl rfl ?_
  refine x_iload_n C dX10_same_7 3 rfl rfl ?_
  refine x_callV C (ok_X10_sideAt xO hsa ns hns hn4 tn U htn hRU) mv_X10_sideAt ml_X10_97 (xO.1 100 _ rfl).1 rfl rfl rfl (Nat.le_of_ble_eq_true rfl) (hrm (rm := { frames := 0, cells := 0, slots := 0, locals := 0 }) hZ ⟨Nat.le_of_ble_eq_true rfl, Nat.le_of_ble_eq_true rfl⟩) (hcs hZ ⟨Nat.le_of_ble_eq_true rfl, Nat.le_of_ble_eq_true rfl⟩) dX10_same_8 (fun v G' hp => ?_)
  obtain ⟨rfl, rfl⟩ := hp
  show hX z 0 0 (T, I, L, R, A) [(3, .ref (A S)), (0, .ref (A 100)), (1, .int (nI sn)), (2, .int (nI tn))] 11 [.ref (A U)]
  refine x_astore (lv' := [(4, .ref (A U)), (3, .ref (A S)), (0, .ref (A 100)), (1, .int (nI sn)), (2, .int (nI tn))]) C dX10_same_11 (Nat.lt_of_lt_of_eq (by decide) hN.symm) rfl ?_
  refine x_aload_n C dX10_same_13 1 rfl rfl ?_
  refine x_ifnull C dX10_same_14 ?_
  refine x_aload C dX10_same_17 0 rfl ?_
  refine x_ifnonnull (tgt := 25) C dX10_same_19 (by decide) ?_
  refine x_aload_n C dX10_same_25 1 rfl rfl ?_
  refine x_callV C (ok_X6_isDone S P hSdS hTP ms nx ha hmsS hnxS hhaS h31S) mv_X6_isDone ml_X10_116 hSdS.1.1 rfl rfl rfl (Nat.le_of_ble_eq_true rfl) (hrm (rm := { frames := 0, cells := 0, slots := 0, locals := 0 }) hZ ⟨Nat.le_of_ble_eq_true rfl, Nat.le_of_ble_eq_true rfl⟩) (hcs hZ ⟨Nat.le_of_ble_eq_true rfl, Nat.le_of_ble_eq_true rfl⟩) dX10_same_26 (fun v G' hp => ?_)
  obtain ⟨rfl, rfl⟩ := hp
  show hX z 0 0 (T, I, L, R, A) [(4, .ref (A U)), (3, .ref (A S)), (0, .ref (A 100)), (1, .int (nI sn)), (2, .int (nI tn))] 29 [.int (bI (decide (ms ≤ nx)))]
  refine x_if_eq (tgt := 40) C dX10_same_29 (by decide) (fun c29 => absurd c29 (by rw [decide_eq_true hdn]; decide +kernel)) (fun c29 => ?_)
  refine x_aload C dX10_same_32 0 rfl ?_
  refine x_callV C (ok_X6_isDone U Q hSdU hTQ mt ny hb hmsU hnxU hhaU h31U) mv_X6_isDone ml_X10_116 hSdU.1.1 rfl rfl rfl (Nat.le_of_ble_eq_true rfl) (hrm (rm := { frames := 0, cells := 0, slots := 0, locals := 0 }) hZ ⟨Nat.le_of_ble_eq_true rfl, Nat.le_of_ble_eq_true rfl⟩) (hcs hZ ⟨Nat.le_of_ble_eq_true rfl, Nat.le_of_ble_eq_true rfl⟩) dX10_same_34 (fun v G' hp => ?_)
  obtain ⟨rfl, rfl⟩ := hp
  show hX z 0 0 (T, I, L, R, A) [(4, .ref (A U)), (3, .ref (A S)), (0, .ref (A 100)), (1, .int (nI sn)), (2, .int (nI tn))] 37 [.int (bI (decide (mt ≤ ny)))]
  refine x_if_ne (tgt := 43) C dX10_same_37 (by decide) (fun c37 => ?_) (fun c37 => absurd c37 (by rw [decide_eq_true hem]; decide +kernel))
  refine x_aload_n C dX10_same_43 1 rfl rfl ?_
  refine x_getiN C fl_X10_152 hSdS.1.1 rfl dX10_same_44 ?_
  refine x_eqi (y := nI ha) hhaS ?_
  refine x_aload C dX10_same_47 0 rfl ?_
  refine x_getiN C fl_X10_152 hSdU.1.1 rfl dX10_same_49 ?_
  refine x_eqi (y := nI hb) hhaU ?_
  refine x_icmp_eqN (tgt := 74) C (by omega) (by omega) dX10_same_52 (by decide) (fun c52 => ?_) (fun c52 => ?_)
  · refine x_iconst (v := nI 0) C dX10_same_74 (by decide +kernel) ?_
    exact x_iret C E (Nat.le_of_ble_eq_true rfl) (Nat.le_of_ble_eq_true rfl) dX10_same_75 (⟨⟨false, rfl, ⟨fun h => absurd h (by decide), fun h => by first | exact absurd c52 h.1 | (have h2 := hq.mpr h.2; rw [bI_F c67] at h2; cases h2)⟩⟩, rfl⟩)
  · refine x_aload_n C dX10_same_55 1 rfl rfl ?_
    refine x_getrN C fl_X10_101 hSdS.1.1 rfl hSdS.2.1.2.2.2.2 dX10_same_56 ?_
    refine x_aload C dX10_same_59 0 rfl ?_
    refine x_getrN C fl_X10_101 hSdU.1.1 rfl hSdU.2.1.2.2.2.2 dX10_same_61 ?_
    refine x_callV C (ok_X7_fits (S + 4) (U + 4) hSdS.2.2.2 hSdU.2.2.2) mv_X7_fits ml_X10_155 hSdS.2.2.2.1 rfl rfl rfl (Nat.le_of_ble_eq_true rfl) (hrm (rm := { frames := 0, cells := 0, slots := 0, locals := 0 }) hZ ⟨Nat.le_of_ble_eq_true rfl, Nat.le_of_ble_eq_true rfl⟩) (hcs hZ ⟨Nat.le_of_ble_eq_true rfl, Nat.le_of_ble_eq_true rfl⟩) dX10_same_64 (fun v G' hp => ?_)
    obtain ⟨⟨q, rfl, hq⟩, rfl⟩ := hp
    show hX z 0 0 (T, I, L, R, A) [(4, .ref (A U)), (3, .ref (A S)), (0, .ref (A 100)), (1, .int (nI sn)), (2, .int (nI tn))] 67 [.int (bI q)]
    refine x_if_eq (tgt := 74) C dX10_same_67 (by decide) (fun c67 => ?_) (fun c67 => ?_)
    · refine x_iconst (v := nI 0) C dX10_same_74 (by decide +kernel) ?_
      exact x_iret C E (Nat.le_of_ble_eq_true rfl) (Nat.le_of_ble_eq_true rfl) dX10_same_75 (⟨⟨false, rfl, ⟨fun h => absurd h (by decide), fun h => by first | exact absurd c52 h.1 | (have h2 := hq.mpr h.2; rw [bI_F c67] at h2; cases h2)⟩⟩, rfl⟩)
    · refine x_iconst (v := nI 1) C dX10_same_70 (by decide +kernel) ?_
      refine x_goto (tgt := 75) C dX10_same_71 (by decide) ?_
      exact x_iret C E (Nat.le_of_ble_eq_true rfl) (Nat.le_of_ble_eq_true rfl) dX10_same_75 (⟨⟨true, rfl, ⟨fun _ => ⟨c52, hq.mp (bI_T c67)⟩, fun _ => rfl⟩⟩, rfl⟩)

set_option maxHeartbeats 4000000 in
set_option maxRecDepth 100000 in
theorem ok_X10_count {l : Launch} {a0 : Nat} {D : va_G} {sa : Nat → Nat} {T : Nat → Option hKd} {I : Nat → Nat → Int32} {L : Nat → Nat → Int64} {R : Nat → Nat → Option Nat} {A : Nat → Nat} (xO : isX T R A a0) (hsa : ∀ k, k < 5 → sa k = A (90 + k)) (np ns tn ln gn : Nat) (h7 : I 100 7 = nI np) (h8 : I 100 8 = nI ns) (h103 : I 103 1 = nI tn) (h105 : I 105 1 = nI ln) (h107 : I 107 1 = nI gn) (w : Int32) : hM l a0 D sa yX10_count cX10_count 2 (some .int) { frames := 0, cells := 0, slots := 0, locals := 0 } [.ref (A 100), .int w] (T, I, L, R, A) (fun r G' => r = some (.int (cntF np ns tn ln gn w)) ∧ G' = (T, I, L, R, A)) := by
  refine hM.of (by decide +kernel) (Nat.le_of_ble_eq_true rfl) ?_
  intro z hl h0 hD hS hN C E
  subst hl; subst h0; subst hD; subst hS
  have C : hC z RX10 cX10_count := C
  have hZ := E.2.2.2.1
  show hX z 0 0 (T, I, L, R, A) [(0, .ref (A 100)), (1, .int w)] 0 []
  refine x_iload_n C dX10_count_0 1 rfl rfl ?_
  by_cases s1_0 : w = nI 0
  · refine x_tableIn (off := 35) (tgt := 36) C dX10_count_1 (by rw [s1_0]; decide +kernel) (by rw [s1_0]; decide +kernel) (by rw [s1_0]; decide +kernel) (by decide) ?_
    refine x_aload_n C dX10_count_36 0 rfl rfl ?_
    refine x_getiN C fl_X10_47 (xO.1 100 _ rfl).1 rfl dX10_count_37 ?_
    refine x_eqi (y := nI np) h7 ?_
    exact x_iret C E (Nat.le_of_ble_eq_true rfl) (Nat.le_of_ble_eq_true rfl) dX10_count_40 (⟨by unfold cntF; rw [if_pos s1_0], rfl⟩)
  by_cases s1_1 : w = nI 1
  · refine x_tableIn (off := 40) (tgt := 41) C dX10_count_1 (by rw [s1_1]; decide +kernel) (by rw [s1_1]; decide +kernel) (by rw [s1_1]; decide +kernel) (by decide) ?_
    refine x_aload_n C dX10_count_41 0 rfl rfl ?_
    refine x_getiN C fl_X10_51 (xO.1 100 _ rfl).1 rfl dX10_count_42 ?_
    refine x_eqi (y := nI ns) h8 ?_
    exact x_iret C E (Nat.le_of_ble_eq_true rfl) (Nat.le_of_ble_eq_true rfl) dX10_count_45 (⟨by unfold cntF; rw [if_neg s1_0, if_pos s1_1], rfl⟩)
  by_cases s1_2 : w = nI 2
  · refine x_tableIn (off := 45) (tgt := 46) C dX10_count_1 (by rw [s1_2]; decide +kernel) (by rw [s1_2]; decide +kernel) (by rw [s1_2]; decide +kernel) (by decide) ?_
    refine x_aload_n C dX10_count_46 0 rfl rfl ?_
    refine x_getrN C fl_X10_26 (xO.1 100 _ rfl).1 rfl (xO.2.1 100 2 _ rfl) dX10_count_47 ?_
    refine x_getiN C fl_X10_110 (xO.1 103 _ rfl).1 rfl dX10_count_50 ?_
    refine x_eqi (y := nI tn) h103 ?_
    exact x_iret C E (Nat.le_of_ble_eq_true rfl) (Nat.le_of_ble_eq_true rfl) dX10_count_53 (⟨by unfold cntF; rw [if_neg s1_0, if_neg s1_1, if_pos s1_2], rfl⟩)
  by_cases s1_3 : w = nI 3
  · refine x_tableIn (off := 53) (tgt := 54) C dX10_count_1 (by rw [s1_3]; decide +kernel) (by rw [s1_3]; decide +kernel) (by rw [s1_3]; decide +kernel) (by decide) ?_
    refine x_aload_n C dX10_count_54 0 rfl rfl ?_
    refine x_getrN C fl_X10_30 (xO.1 100 _ rfl).1 rfl (xO.2.1 100 3 _ rfl) dX10_count_55 ?_
    refine x_getiN C fl_X10_110 (xO.1 105 _ rfl).1 rfl dX10_count_58 ?_
    refine x_eqi (y := nI ln) h105 ?_
    exact x_iret C E (Nat.le_of_ble_eq_true rfl) (Nat.le_of_ble_eq_true rfl) dX10_count_61 (⟨by unfold cntF; rw [if_neg s1_0, if_neg s1_1, if_neg s1_2, if_pos s1_3], rfl⟩)
  by_cases s1_4 : w = nI 4
  · refine x_tableIn (off := 61) (tgt := 62) C dX10_count_1 (by rw [s1_4]; decide +kernel) (by rw [s1_4]; decide +kernel) (by rw [s1_4]; decide +kernel) (by decide) ?_
    refine x_aload_n C dX10_count_62 0 rfl rfl ?_
    refine x_getrN C fl_X10_33 (xO.1 100 _ rfl).1 rfl (xO.2.1 100 4 _ rfl) dX10_count_63 ?_
    refine x_getiN C fl_X10_110 (xO.1 107 _ rfl).1 rfl dX10_count_66 ?_
    refine x_eqi (y := nI gn) h107 ?_
    exact x_iret C E (Nat.le_of_ble_eq_true rfl) (Nat.le_of_ble_eq_true rfl) dX10_count_69 (⟨by unfold cntF; rw [if_neg s1_0, if_neg s1_1, if_neg s1_2, if_neg s1_3, if_pos s1_4], rfl⟩)
  refine x_tableOut (tgt := 70) C dX10_count_1 (sw_out4 s1_0 s1_1 s1_2 s1_3 s1_4) (by decide) ?_
  refine x_bipush (v := (-2)) C dX10_count_70 (by decide +kernel) ?_
  exact x_iret C E (Nat.le_of_ble_eq_true rfl) (Nat.le_of_ble_eq_true rfl) dX10_count_72 (⟨by unfold cntF; rw [if_neg s1_0, if_neg s1_1, if_neg s1_2, if_neg s1_3, if_neg s1_4], rfl⟩)

