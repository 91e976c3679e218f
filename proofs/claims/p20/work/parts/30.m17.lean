/-! ===== the class' numbers modulo 2^255 - 19: ten limbs ===== -/
def wd (i : Nat) : Nat := 26 - i % 2
theorem rd_al {L K : Nat → Nat → Int64} {o f i : Nat} {F : Nat → Int} {H : Nat → Int64} (hF : ∀ j, j < 10 → L f j = lZ (F j)) (hi : i < 10) (hK : ∀ q, q ≠ o → K q = L q) (hO : ∀ j, j < 10 → K o j = if j < i then H j else L o j) : K f i = lZ (F i) := by
  by_cases e : f = o
  · subst e; rw [hO i hi, if_neg (by omega), hF i hi]
  · rw [hK f e, hF i hi]
theorem wr_al {L K : Nat → Nat → Int64} {o i : Nat} {H : Nat → Int64} {x : Int64} (hO : ∀ j, j < 10 → K o j = if j < i then H j else L o j) (hx : x = H i) : ∀ j, j < 10 → va_up K o (vp_updL (K o) i x) o j = if j < i + 1 then H j else L o j := by
  intro j hj; rw [up_eq]; unfold vp_updL
  by_cases e : j = i
  · rw [if_pos e, if_pos (by omega), e, hx]
  · rw [if_neg e, hO j hj]; by_cases e2 : j < i
    · rw [if_pos e2, if_pos (by omega)]
    · rw [if_neg e2, if_neg (by omega)]
set_option maxHeartbeats 4000000 in
set_option maxRecDepth 100000 in
theorem ok_X1_add {l : Launch} {a0 : Nat} {D : va_G} {sa : Nat → Nat} {T : Nat → Option hKd} {I : Nat → Nat → Int32} {L : Nat → Nat → Int64} {R : Nat → Nat → Option Nat} {A : Nat → Nat} (f g o : Nat) (F G : Nat → Int) (hTf : T f = some (.inl (.long, 10))) (hTg : T g = some (.inl (.long, 10))) (hTo : T o = some (.inl (.long, 10))) (ho0 : a0 ≤ A o) (hF : ∀ j, j < 10 → L f j = lZ (F j)) (hG : ∀ j, j < 10 → L g j = lZ (G j)) : hM l a0 D sa yX1_add cX1_add 4 none { frames := 0, cells := 0, slots := 0, locals := 0 } [.ref (A f), .ref (A g), .ref (A o)] (T, I, L, R, A) (fun r G' => r = none ∧ ∃ L', G' = (T, I, L', R, A) ∧ (∀ j, j < 10 → L' o j = lZ (F j + G j)) ∧ ∀ q, q ≠ o → L' q = L q) := by
  refine hM.of (by decide +kernel) (Nat.le_of_ble_eq_true rfl) ?_
  intro z hl h0 hD hS hN C E
  subst hl; subst h0; subst hD; subst hS
  have C : hC z RX1 cX1_add := C
  have hZ := E.2.2.2.1
  show hX z 0 0 (T, I, L, R, A) [(0, .ref (A f)), (1, .ref (A g)), (2, .ref (A o))] 0 []
  refine x_iconst (v := nI 0) C dX1_add_0 (by decide +kernel) ?_
  refine x_istore_n (lv' := [(3, .int (nI 0)), (0, .ref (A f)), (1, .ref (A g)), (2, .ref (A o))]) C dX1_add_1 rfl (Nat.lt_of_lt_of_eq (by decide) hN.symm) rfl ?_
  have L2 : ∀ (fuel_ : Nat) (i : Nat) (K : Nat → Nat → Int64), 10 - i < fuel_ → (i ≤ 10) → (∀ q, q ≠ o → K q = L q) → (∀ j, j < 10 → K o j = if j < i then lZ (F j + G j) else L o j) → hX z 0 0 (T, I, K, R, A) [(3, .int (nI i)), (0, .ref (A f)), (1, .ref (A g)), (2, .ref (A o))] 2 [] := by
    intro fuel_
    induction fuel_ with
    | zero => intro i K hmz; exact absurd hmz (Nat.not_lt_zero _)
    | succ fuel_ ih2 =>
      intro i K hmz hi hK hO
      refine x_iload_n C dX1_add_2 0 rfl rfl ?_
      refine x_bipush (v := nI 10) C dX1_add_3 (by decide +kernel) ?_
      refine x_icmp_geN (tgt := 24) C (by omega) (by omega) dX1_add_5 (by decide) (fun c5 => ?_) (fun c5 => ?_)
      · exact x_vret C E (Nat.le_of_ble_eq_true rfl) (Nat.le_of_ble_eq_true rfl) dX1_add_24 (⟨rfl, K, rfl, fun j hj => by rw [hO j hj, if_pos (by omega)], hK⟩)
      · refine x_aload_n C dX1_add_8 3 rfl rfl ?_
        refine x_iload_n C dX1_add_9 0 rfl rfl ?_
        refine x_aload_n C dX1_add_10 1 rfl rfl ?_
        refine x_iload_n C dX1_add_11 0 rfl rfl ?_
        refine x_laldN C hTf (by omega) (by omega) dX1_add_12 ?_
        refine x_eql (y := lZ (F i)) (rd_al hF (by omega) hK hO) ?_
        refine x_aload_n C dX1_add_13 2 rfl rfl ?_
        refine x_iload_n C dX1_add_14 0 rfl rfl ?_
        refine x_laldN C hTg (by omega) (by omega) dX1_add_15 ?_
        refine x_eql (y := lZ (G i)) (rd_al hG (by omega) hK hO) ?_
        refine x_laddZ C dX1_add_16 ?_
        refine x_lastN C hTo ho0 (by omega) (by omega) dX1_add_17 (fun L1 eL1 => ?_)
        refine x_iinc (v := nI (i + 1)) (lv' := [(3, .int (nI (i + 1))), (0, .ref (A f)), (1, .ref (A g)), (2, .ref (A o))]) C dX1_add_18 0 rfl (nI_inc 1) (Nat.lt_of_lt_of_eq (by decide) hN.symm) rfl ?_
        refine x_goto (tgt := 2) C dX1_add_21 (by decide) ?_
        refine x_sub (lv' := _) [0, 1, 2, 3] rfl ?_
        exact ih2 (i + 1) L1 (by omega) (by omega) (fun q hq => by rw [eL1, up_ne _ _ hq]; exact hK q hq) (by rw [eL1]; exact wr_al (H := fun j => lZ (F j + G j)) hO rfl)
  refine x_sub (lv' := _) [0, 1, 2, 3] rfl ?_
  exact L2 _ 0 L (Nat.lt_succ_self _) (by omega) (fun _ _ => rfl) (fun j _ => by rw [if_neg (by omega)])

set_option maxHeartbeats 4000000 in
set_option maxRecDepth 100000 in
theorem ok_X1_subtract {l : Launch} {a0 : Nat} {D : va_G} {sa : Nat → Nat} {T : Nat → Option hKd} {I : Nat → Nat → Int32} {L : Nat → Nat → Int64} {R : Nat → Nat → Option Nat} {A : Nat → Nat} (f g o : Nat) (F G : Nat → Int) (hTf : T f = some (.inl (.long, 10))) (hTg : T g = some (.inl (.long, 10))) (hTo : T o = some (.inl (.long, 10))) (ho0 : a0 ≤ A o) (hF : ∀ j, j < 10 → L f j = lZ (F j)) (hG : ∀ j, j < 10 → L g j = lZ (G j)) : hM l a0 D sa yX1_subtract cX1_subtract 4 none { frames := 0, cells := 0, slots := 0, locals := 0 } [.ref (A f), .ref (A g), .ref (A o)] (T, I, L, R, A) (fun r G' => r = none ∧ ∃ L', G' = (T, I, L', R, A) ∧ (∀ j, j < 10 → L' o j = lZ (F j - G j)) ∧ ∀ q, q ≠ o → L' q = L q) := by
  refine hM.of (by decide +kernel) (Nat.le_of_ble_eq_true rfl) ?_
  intro z hl h0 hD hS hN C E
  subst hl; subst h0; subst hD; subst hS
  have C : hC z RX1 cX1_subtract := C
  have hZ := E.2.2.2.1
  show hX z 0 0 (T, I, L, R, A) [(0, .ref (A f)), (1, .ref (A g)), (2, .ref (A o))] 0 []
  refine x_iconst (v := nI 0) C dX1_subtract_0 (by decide +kernel) ?_
  refine x_istore_n (lv' := [(3, .int (nI 0)), (0, .ref (A f)), (1, .ref (A g)), (2, .ref (A o))]) C dX1_subtract_1 rfl (Nat.lt_of_lt_of_eq (by decide) hN.symm) rfl ?_
  have L2 : ∀ (fuel_ : Nat) (i : Nat) (K : Nat → Nat → Int64), 10 - i < fuel_ → (i ≤ 10) → (∀ q, q ≠ o → K q = L q) → (∀ j, j < 10 → K o j = if j < i then lZ (F j - G j) else L o j) → hX z 0 0 (T, I, K, R, A) [(3, .int (nI i)), (0, .ref (A f)), (1, .ref (A g)), (2, .ref (A o))] 2 [] := by
    intro fuel_
    induction fuel_ with
    | zero => intro i K hmz; exact absurd hmz (Nat.not_lt_zero _)
    | succ fuel_ ih2 =>
      intro i K hmz hi hK hO
      refine x_iload_n C dX1_subtract_2 0 rfl rfl ?_
      refine x_bipush (v := nI 10) C dX1_subtract_3 (by decide +kernel) ?_
      refine x_icmp_geN (tgt := 24) C (by omega) (by omega) dX1_subtract_5 (by decide) (fun c5 => ?_) (fun c5 => ?_)
      · exact x_vret C E (Nat.le_of_ble_eq_true rfl) (Nat.le_of_ble_eq_true rfl) dX1_subtract_24 (⟨rfl, K, rfl, fun j hj => by rw [hO j hj, if_pos (by omega)], hK⟩)
      · refine x_aload_n C dX1_subtract_8 3 rfl rfl ?_
        refine x_iload_n C dX1_subtract_9 0 rfl rfl ?_
        refine x_aload_n C dX1_subtract_10 1 rfl rfl ?_
        refine x_iload_n C dX1_subtract_11 0 rfl rfl ?_
        refine x_laldN C hTf (by omega) (by omega) dX1_subtract_12 ?_
        refine x_eql (y := lZ (F i)) (rd_al hF (by omega) hK hO) ?_
        refine x_aload_n C dX1_subtract_13 2 rfl rfl ?_
        refine x_iload_n C dX1_subtract_14 0 rfl rfl ?_
        refine x_laldN C hTg (by omega) (by omega) dX1_subtract_15 ?_
        refine x_eql (y := lZ (G i)) (rd_al hG (by omega) hK hO) ?_
        refine x_lsubZ C dX1_subtract_16 ?_
        refine x_lastN C hTo ho0 (by omega) (by omega) dX1_subtract_17 (fun L1 eL1 => ?_)
        refine x_iinc (v := nI (i + 1)) (lv' := [(3, .int (nI (i + 1))), (0, .ref (A f)), (1, .ref (A g)), (2, .ref (A o))]) C dX1_subtract_18 0 rfl (nI_inc 1) (Nat.lt_of_lt_of_eq (by decide) hN.symm) rfl ?_
        refine x_goto (tgt := 2) C dX1_subtract_21 (by decide) ?_
        refine x_sub (lv' := _) [0, 1, 2, 3] rfl ?_
        exact ih2 (i + 1) L1 (by omega) (by omega) (fun q hq => by rw [eL1, up_ne _ _ hq]; exact hK q hq) (by rw [eL1]; exact wr_al (H := fun j => lZ (F j - G j)) hO rfl)
  refine x_sub (lv' := _) [0, 1, 2, 3] rfl ?_
  exact L2 _ 0 L (Nat.lt_succ_self _) (by omega) (fun _ _ => rfl) (fun j _ => by rw [if_neg (by omega)])

set_option maxHeartbeats 4000000 in
set_option maxRecDepth 100000 in
theorem ok_X1_setSmall {l : Launch} {a0 : Nat} {D : va_G} {sa : Nat → Nat} {T : Nat → Option hKd} {I : Nat → Nat → Int32} {L : Nat → Nat → Int64} {R : Nat → Nat → Option Nat} {A : Nat → Nat} (o v : Nat) (hv : v < 2 ^ 31) (hTo : T o = some (.inl (.long, 10))) (ho0 : a0 ≤ A o) : hM l a0 D sa yX1_setSmall cX1_setSmall 3 none { frames := 0, cells := 0, slots := 0, locals := 0 } [.ref (A o), .int (nI v)] (T, I, L, R, A) (fun r G' => r = none ∧ ∃ L', G' = (T, I, L', R, A) ∧ (∀ j, j < 10 → L' o j = lZ (if j = 0 then (v : Int) else 0)) ∧ ∀ q, q ≠ o → L' q = L q) := by
  refine hM.of (by decide +kernel) (Nat.le_of_ble_eq_true rfl) ?_
  intro z hl h0 hD hS hN C E
  subst hl; subst h0; subst hD; subst hS
  have C : hC z RX1 cX1_setSmall := C
  have hZ := E.2.2.2.1
  show hX z 0 0 (T, I, L, R, A) [(0, .ref (A o)), (1, .int (nI v))] 0 []
  refine x_iconst (v := nI 0) C dX1_setSmall_0 (by decide +kernel) ?_
  refine x_istore_n (lv' := [(2, .int (nI 0)), (0, .ref (A o)), (1, .int (nI v))]) C dX1_setSmall_1 rfl (Nat.lt_of_lt_of_eq (by decide) hN.symm) rfl ?_
  have L2 : ∀ (fuel_ : Nat) (i : Nat) (K : Nat → Nat → Int64), 10 - i < fuel_ → (i ≤ 10) → (∀ q, q ≠ o → K q = L q) → (∀ j, j < 10 → K o j = if j < i then lZ (if j = 0 then (v : Int) else 0) else L o j) → hX z 0 0 (T, I, K, R, A) [(2, .int (nI i)), (0, .ref (A o)), (1, .int (nI v))] 2 [] := by
    intro fuel_
    induction fuel_ with
    | zero => intro i K hmz; exact absurd hmz (Nat.not_lt_zero _)
    | succ fuel_ ih2 =>
      intro i K hmz hi hK hO
      refine x_iload_n C dX1_setSmall_2 0 rfl rfl ?_
      refine x_bipush (v := nI 10) C dX1_setSmall_3 (by decide +kernel) ?_
      refine x_icmp_geN (tgt := 27) C (by omega) (by omega) dX1_setSmall_5 (by decide) (fun c5 => ?_) (fun c5 => ?_)
      · exact x_vret C E (Nat.le_of_ble_eq_true rfl) (Nat.le_of_ble_eq_true rfl) dX1_setSmall_27 (⟨rfl, K, rfl, fun j hj => by rw [hO j hj, if_pos (by omega)], hK⟩)
      · refine x_aload_n C dX1_setSmall_8 1 rfl rfl ?_
        refine x_iload_n C dX1_setSmall_9 0 rfl rfl ?_
        refine x_iload_n C dX1_setSmall_10 0 rfl rfl ?_
        refine x_if_neN (tgt := 19) C (by omega) dX1_setSmall_11 (by decide) (fun c11 => ?_) (fun c11 => ?_)
        · refine x_lconst (v := lZ 0) C dX1_setSmall_19 (by decide +kernel) ?_
          refine x_lastN C hTo ho0 (by omega) (by omega) dX1_setSmall_20 (fun L1 eL1 => ?_)
          refine x_iinc (v := nI (i + 1)) (lv' := [(2, .int (nI (i + 1))), (0, .ref (A o)), (1, .int (nI v))]) C dX1_setSmall_21 0 rfl (nI_inc 1) (Nat.lt_of_lt_of_eq (by decide) hN.symm) rfl ?_
          refine x_goto (tgt := 2) C dX1_setSmall_24 (by decide) ?_
          refine x_sub (lv' := _) [0, 1, 2] rfl ?_
          exact ih2 (i + 1) L1 (by omega) (by omega) (fun q hq => by rw [eL1, up_ne _ _ hq]; exact hK q hq) (by rw [eL1]; exact wr_al (H := fun j => lZ (if j = 0 then (v : Int) else 0)) hO (by first | rw [if_neg c11] | rw [if_pos c11]))
        · refine x_iload_n C dX1_setSmall_14 2 rfl rfl ?_
          refine x_i2l C dX1_setSmall_15 ?_
          refine x_eql (y := lZ (v : Int)) (lZ_i hv) ?_
          refine x_goto (tgt := 20) C dX1_setSmall_16 (by decide) ?_
          refine x_lastN C hTo ho0 (by omega) (by omega) dX1_setSmall_20 (fun L2 eL2 => ?_)
          refine x_iinc (v := nI (i + 1)) (lv' := [(2, .int (nI (i + 1))), (0, .ref (A o)), (1, .int (nI v))]) C dX1_setSmall_21 0 rfl (nI_inc 1) (Nat.lt_of_lt_of_eq (by decide) hN.symm) rfl ?_
          refine x_goto (tgt := 2) C dX1_setSmall_24 (by decide) ?_
          refine x_sub (lv' := _) [0, 1, 2] rfl ?_
          exact ih2 (i + 1) L2 (by omega) (by omega) (fun q hq => by rw [eL2, up_ne _ _ hq]; exact hK q hq) (by rw [eL2]; exact wr_al (H := fun j => lZ (if j = 0 then (v : Int) else 0)) hO (by first | rw [if_neg c11] | rw [if_pos c11]))
  refine x_sub (lv' := _) [0, 1, 2] rfl ?_
  exact L2 _ 0 L (Nat.lt_succ_self _) (by omega) (fun _ _ => rfl) (fun j _ => by rw [if_neg (by omega)])

set_option maxHeartbeats 4000000 in
set_option maxRecDepth 100000 in
theorem ok_X1_width {l : Launch} {a0 : Nat} {D : va_G} {sa : Nat → Nat} {T : Nat → Option hKd} {I : Nat → Nat → Int32} {L : Nat → Nat → Int64} {R : Nat → Nat → Option Nat} {A : Nat → Nat} (i : Nat) (hi : i < 2 ^ 31) : hM l a0 D sa yX1_width cX1_width 1 (some .int) { frames := 0, cells := 0, slots := 0, locals := 0 } [.int (nI i)] (T, I, L, R, A) (fun r G' => r = some (.int (nI (wd i))) ∧ G' = (T, I, L, R, A)) := by
  refine hM.of (by decide +kernel) (Nat.le_of_ble_eq_true rfl) ?_
  intro z hl h0 hD hS hN C E
  subst hl; subst h0; subst hD; subst hS
  have C : hC z RX1 cX1_width := C
  have hZ := E.2.2.2.1
  show hX z 0 0 (T, I, L, R, A) [(0, .int (nI i))] 0 []
  refine x_bipush (v := nI 26) C dX1_width_0 (by decide +kernel) ?_
  refine x_iload_n C dX1_width_2 0 rfl rfl ?_
  refine x_iconst (v := nI 1) C dX1_width_3 (by decide +kernel) ?_
  refine x_iandN (q := 1) C (by omega) (by omega) rfl dX1_width_4 ?_
  refine x_isubN C (by omega) dX1_width_5 ?_
  exact x_iret C E (Nat.le_of_ble_eq_true rfl) (Nat.le_of_ble_eq_true rfl) dX1_width_6 (⟨rfl, rfl⟩)

