/-! ===== the model: alter, cut, byteOf, hash, about, same, count, digest ===== -/
theorem in_badN {p : Int32} {n : Nat} (hn : n < 2 ^ 31) (hb : p < 0 ∨ nI n ≤ p) : decide (nI 0 ≤ p ∧ p ≤ nI n - nI 1) = false := by
  apply decide_eq_false
  rintro ⟨h1, h2⟩
  rcases hb with h | h
  · exact Int32.not_le.mpr h (by rw [← nI_0]; exact h1)
  · have h3 := Int32.le_trans h h2
    rcases Nat.eq_zero_or_pos n with e | e
    · subst e; exact absurd h3 (by decide +kernel)
    · rw [pk_sub (show 1 ≤ n by omega)] at h3
      have := (nI_leI (by omega) (by omega)).mp h3
      omega
theorem in_okN {k n : Nat} (hn : n < 2 ^ 31) (hk : k < n) : decide (nI 0 ≤ nI k ∧ nI k ≤ nI n - nI 1) = true := by
  apply decide_eq_true
  rw [pk_sub (show 1 ≤ n by omega)]
  exact ⟨(nI_leI (by omega) (by omega)).mpr (by omega), (nI_leI (by omega) (by omega)).mpr (by omega)⟩
theorem in_badM {p : Int32} {n : Nat} (hb : p < 0 ∨ nI n < p) : decide (nI 0 ≤ p ∧ p ≤ nI n) = false := by
  apply decide_eq_false
  rintro ⟨h1, h2⟩
  rcases hb with h | h
  · exact Int32.not_le.mpr h (by rw [← nI_0]; exact h1)
  · exact Int32.not_le.mpr h h2
theorem in_okM {k n : Nat} (hn : n < 2 ^ 31) (hk : k ≤ n) : decide (nI 0 ≤ nI k ∧ nI k ≤ nI n) = true := decide_eq_true ⟨(nI_leI (by omega) (by omega)).mpr (by omega), (nI_leI (by omega) (by omega)).mpr hk⟩
theorem sw_out7 {x : Int32} (h0 : ¬ x = nI 0) (h1 : ¬ x = nI 1) (h2 : ¬ x = nI 2) (h3 : ¬ x = nI 3) (h4 : ¬ x = nI 4) (h5 : ¬ x = nI 5) (h6 : ¬ x = nI 6) (h7 : ¬ x = nI 7) : x.toInt < 0 ∨ 7 < x.toInt := by
  by_cases g : x.toInt < 0
  · exact Or.inl g
  · refine Or.inr (Int.not_le.mp fun g2 => ?_)
    rcases (show x.toInt = ((0 : Nat) : Int) ∨ x.toInt = ((1 : Nat) : Int) ∨ x.toInt = ((2 : Nat) : Int) ∨ x.toInt = ((3 : Nat) : Int) ∨ x.toInt = ((4 : Nat) : Int) ∨ x.toInt = ((5 : Nat) : Int) ∨ x.toInt = ((6 : Nat) : Int) ∨ x.toInt = ((7 : Nat) : Int) by omega) with e | e | e | e | e | e | e | e
    · exact h0 (sw_nI (by decide) e)
    · exact h1 (sw_nI (by decide) e)
    · exact h2 (sw_nI (by decide) e)
    · exact h3 (sw_nI (by decide) e)
    · exact h4 (sw_nI (by decide) e)
    · exact h5 (sw_nI (by decide) e)
    · exact h6 (sw_nI (by decide) e)
    · exact h7 (sw_nI (by decide) e)
def cntF (np ns tn ln gn : Nat) (w : Int32) : Int32 := if w = nI 0 then nI np else if w = nI 1 then nI ns else if w = nI 2 then nI tn else if w = nI 3 then nI ln else if w = nI 4 then nI gn else -2
def dgS (ab : Nat → Nat → Int32) (h : Nat → Nat → Int32) : Nat → Int64
  | 0 => 67
  | s + 1 => rAd (h s) 32 (rAd (fun j => ab s (j + 2)) 7 (dgS ab h s))
def dgF (ab : Nat → Nat → Int32) (h : Nat → Nat → Int32) (ns : Nat) (lt : Nat → Int32) (ln : Nat) (gt : Nat → Int32) (gn : Nat) : Int64 := rAd gt gn (rAd lt ln (dgS ab h ns))
set_option maxHeartbeats 4000000 in
set_option maxRecDepth 100000 in
theorem bd_X11_alter {l : Launch} {a0 : Nat} {D : va_G} {sa : Nat → Nat} {T : Nat → Option hKd} {I : Nat → Nat → Int32} {L : Nat → Nat → Int64} {R : Nat → Nat → Option Nat} {A : Nat → Nat} (mO : isM T R A a0) (ln : Nat) (hln : I 63 58 = nI ln) (hl160 : ln ≤ 160) (i x : Int32) (hbd : (i < 0 ∨ nI ln ≤ i) ∨ (x < 0 ∨ nI 255 < x)) : hM l a0 D sa yX11_alter cX11_alter 4 (some .int) { frames := 1, cells := 0, slots := 0, locals := 22 } [.ref (A 63), .int i, .int x] (T, I, L, R, A) (fun r G' => r = some (.int (-2)) ∧ G' = (T, I, L, R, A)) := by
  refine hM.of (by decide +kernel) (Nat.le_of_ble_eq_true rfl) ?_
  intro z hl h0 hD hS hN C E
  subst hl; subst h0; subst hD; subst hS
  have C : hC z RX11 cX11_alter := C
  have hZ := E.2.2.2.1
  show hX z 0 0 (T, I, L, R, A) [(0, .ref (A 63)), (1, .int i), (2, .int x)] 0 []
  refine x_iload_n C dX11_alter_0 1 rfl rfl ?_
  refine x_iconst (v := nI 0) C dX11_alter_1 (by decide +kernel) ?_
  refine x_aload_n C dX11_alter_2 0 rfl rfl ?_
  refine x_getiN C fl_X11_450 mO.1 rfl dX11_alter_3 ?_
  refine x_eqi (y := nI ln) hln ?_
  refine x_iconst (v := nI 1) C dX11_alter_6 (by decide +kernel) ?_
  refine x_isub C dX11_alter_7 ?_
  refine x_callS C (ok_X11_in i (nI 0) ((nI ln) - (nI 1))) ms_X11_in ml_X11_366 rfl rfl (Nat.le_of_ble_eq_true rfl) (hrm (rm := { frames := 0, cells := 0, slots := 0, locals := 0 }) hZ ⟨Nat.le_of_ble_eq_true rfl, Nat.le_of_ble_eq_true rfl⟩) (hcs hZ ⟨Nat.le_of_ble_eq_true rfl, Nat.le_of_ble_eq_true rfl⟩) dX11_alter_8 (fun v G' hp => ?_)
  obtain ⟨rfl, rfl⟩ := hp
  show hX z 0 0 (T, I, L, R, A) [(0, .ref (A 63)), (1, .int i), (2, .int x)] 11 [.int (bI (decide ((nI 0) ≤ i ∧ i ≤ ((nI ln) - (nI 1)))))]
  refine x_if_eq (tgt := 25) C dX11_alter_11 (by decide) (fun c11 => ?_) (fun c11 => ?_)
  · refine x_bipush (v := (-2)) C dX11_alter_25 (by decide +kernel) ?_
    exact x_iret C E (Nat.le_of_ble_eq_true rfl) (Nat.le_of_ble_eq_true rfl) dX11_alter_27 (⟨rfl, rfl⟩)
  · refine x_iload_n C dX11_alter_14 2 rfl rfl ?_
    refine x_iconst (v := nI 0) C dX11_alter_15 (by decide +kernel) ?_
    refine x_sipush (v := nI 255) C dX11_alter_16 (by decide +kernel) ?_
    refine x_callS C (ok_X11_in x (nI 0) (nI 255)) ms_X11_in ml_X11_366 rfl rfl (Nat.le_of_ble_eq_true rfl) (hrm (rm := { frames := 0, cells := 0, slots := 0, locals := 0 }) hZ ⟨Nat.le_of_ble_eq_true rfl, Nat.le_of_ble_eq_true rfl⟩) (hcs hZ ⟨Nat.le_of_ble_eq_true rfl, Nat.le_of_ble_eq_true rfl⟩) dX11_alter_19 (fun v G' hp => ?_)
    obtain ⟨rfl, rfl⟩ := hp
    show hX z 0 0 (T, I, L, R, A) [(0, .ref (A 63)), (1, .int i), (2, .int x)] 22 [.int (bI (decide ((nI 0) ≤ x ∧ x ≤ (nI 255))))]
    refine x_if_ne (tgt := 28) C dX11_alter_22 (by decide) (fun c22 => ?_) (fun c22 => ?_)
    · exact False.elim (by rcases hbd with h | h; (· exact c11 (by rw [in_badN (by omega) h]; rfl)); (· exact c22 (by rw [in_badM h]; rfl)))
    · refine x_bipush (v := (-2)) C dX11_alter_25 (by decide +kernel) ?_
      exact x_iret C E (Nat.le_of_ble_eq_true rfl) (Nat.le_of_ble_eq_true rfl) dX11_alter_27 (⟨rfl, rfl⟩)

set_option maxHeartbeats 4000000 in
set_option maxRecDepth 100000 in
theorem ok_X11_alter {l : Launch} {a0 : Nat} {D : va_G} {sa : Nat → Nat} {T : Nat → Option hKd} {I : Nat → Nat → Int32} {L : Nat → Nat → Int64} {R : Nat → Nat → Option Nat} {A : Nat → Nat} (mO : isM T R A a0) (ln : Nat) (hln : I 63 58 = nI ln) (hl160 : ln ≤ 160) (k b : Nat) (hk : k < ln) (hb : b < 256) : hM l a0 D sa yX11_alter cX11_alter 4 (some .int) { frames := 1, cells := 0, slots := 0, locals := 22 } [.ref (A 63), .int (nI k), .int (nI b)] (T, I, L, R, A) (fun r G' => r = some (.int (I 57 k)) ∧ ∃ I', G' = (T, I', L, R, A) ∧ I' = va_up I 57 (upd (I 57) k (I 57 k ^^^ nI b))) := by
  refine hM.of (by decide +kernel) (Nat.le_of_ble_eq_true rfl) ?_
  intro z hl h0 hD hS hN C E
  subst hl; subst h0; subst hD; subst hS
  have C : hC z RX11 cX11_alter := C
  have hZ := E.2.2.2.1
  show hX z 0 0 (T, I, L, R, A) [(0, .ref (A 63)), (1, .int (nI k)), (2, .int (nI b))] 0 []
  refine x_iload_n C dX11_alter_0 1 rfl rfl ?_
  refine x_iconst (v := nI 0) C dX11_alter_1 (by decide +kernel) ?_
  refine x_aload_n C dX11_alter_2 0 rfl rfl ?_
  refine x_getiN C fl_X11_450 mO.1 rfl dX11_alter_3 ?_
  refine x_eqi (y := nI ln) hln ?_
  refine x_iconst (v := nI 1) C dX11_alter_6 (by decide +kernel) ?_
  refine x_isub C dX11_alter_7 ?_
  refine x_callS C (ok_X11_in (nI k) (nI 0) ((nI ln) - (nI 1))) ms_X11_in ml_X11_366 rfl rfl (Nat.le_of_ble_eq_true rfl) (hrm (rm := { frames := 0, cells := 0, slots := 0, locals := 0 }) hZ ⟨Nat.le_of_ble_eq_true rfl, Nat.le_of_ble_eq_true rfl⟩) (hcs hZ ⟨Nat.le_of_ble_eq_true rfl, Nat.le_of_ble_eq_true rfl⟩) dX11_alter_8 (fun v G' hp => ?_)
  obtain ⟨rfl, rfl⟩ := hp
  show hX z 0 0 (T, I, L, R, A) [(0, .ref (A 63)), (1, .int (nI k)), (2, .int (nI b))] 11 [.int (bI (decide ((nI 0) ≤ (nI k) ∧ (nI k) ≤ ((nI ln) - (nI 1)))))]
  refine x_eqi (y := nI 1) (by rw [in_okN (by omega) hk]; rfl) ?_
  refine x_if_eqN (tgt := 25) C (by omega) dX11_alter_11 (by decide) (fun c11 => absurd c11 (by omega)) (fun c11 => ?_)
  refine x_iload_n C dX11_alter_14 2 rfl rfl ?_
  refine x_iconst (v := nI 0) C dX11_alter_15 (by decide +kernel) ?_
  refine x_sipush (v := nI 255) C dX11_alter_16 (by decide +kernel) ?_
  refine x_callS C (ok_X11_in (nI b) (nI 0) (nI 255)) ms_X11_in ml_X11_366 rfl rfl (Nat.le_of_ble_eq_true rfl) (hrm (rm := { frames := 0, cells := 0, slots := 0, locals := 0 }) hZ ⟨Nat.le_of_ble_eq_true rfl, Nat.le_of_ble_eq_true rfl⟩) (hcs hZ ⟨Nat.le_of_ble_eq_true rfl, Nat.le_of_ble_eq_true rfl⟩) dX11_alter_19 (fun v G' hp => ?_)
  obtain ⟨rfl, rfl⟩ := hp
  show hX z 0 0 (T, I, L, R, A) [(0, .ref (A 63)), (1, .int (nI k)), (2, .int (nI b))] 22 [.int (bI (decide ((nI 0) ≤ (nI b) ∧ (nI b) ≤ (nI 255))))]
  refine x_eqi (y := nI 1) (by rw [in_okM (by decide) (by omega)]; rfl) ?_
  refine x_if_neN (tgt := 28) C (by omega) dX11_alter_22 (by decide) (fun c22 => ?_) (fun c22 => absurd c22 (by omega))
  refine x_aload_n C dX11_alter_28 0 rfl rfl ?_
  refine x_getrN C fl_X11_243 mO.1 rfl (mO.2.2 57 _ rfl).1 dX11_alter_29 ?_
  refine x_iload_n C dX11_alter_32 1 rfl rfl ?_
  refine x_ialdN C (mO.2.2 57 _ rfl).2.1 (by omega) (by omega) dX11_alter_33 ?_
  refine x_istore_n (lv' := [(3, .int (I 57 k)), (0, .ref (A 63)), (1, .int (nI k)), (2, .int (nI b))]) C dX11_alter_34 rfl (Nat.lt_of_lt_of_eq (by decide) hN.symm) rfl ?_
  refine x_aload_n C dX11_alter_35 1 rfl rfl ?_
  refine x_getrN C fl_X11_243 mO.1 rfl (mO.2.2 57 _ rfl).1 dX11_alter_36 ?_
  refine x_iload_n C dX11_alter_39 2 rfl rfl ?_
  refine x_iload_n C dX11_alter_40 0 rfl rfl ?_
  refine x_iload_n C dX11_alter_41 3 rfl rfl ?_
  refine x_ixor C dX11_alter_42 ?_
  refine x_iastN C (mO.2.2 57 _ rfl).2.1 (mO.2.2 57 _ rfl).2.2 (by omega) (by omega) dX11_alter_43 (fun I1 eI1 => ?_)
  refine x_iload_n C dX11_alter_44 0 rfl rfl ?_
  exact x_iret C E (Nat.le_of_ble_eq_true rfl) (Nat.le_of_ble_eq_true rfl) dX11_alter_45 (⟨rfl, _, rfl, eI1⟩)

set_option maxHeartbeats 4000000 in
set_option maxRecDepth 100000 in
theorem bd_X11_cut {l : Launch} {a0 : Nat} {D : va_G} {sa : Nat → Nat} {T : Nat → Option hKd} {I : Nat → Nat → Int32} {L : Nat → Nat → Int64} {R : Nat → Nat → Option Nat} {A : Nat → Nat} (mO : isM T R A a0) (ln : Nat) (hln : I 63 58 = nI ln) (hl160 : ln ≤ 160) (i : Int32) (hbd : i < 0 ∨ nI ln < i) : hM l a0 D sa yX11_cut cX11_cut 3 (some .int) { frames := 1, cells := 0, slots := 0, locals := 22 } [.ref (A 63), .int i] (T, I, L, R, A) (fun r G' => r = some (.int (-2)) ∧ G' = (T, I, L, R, A)) := by
  refine hM.of (by decide +kernel) (Nat.le_of_ble_eq_true rfl) ?_
  intro z hl h0 hD hS hN C E
  subst hl; subst h0; subst hD; subst hS
  have C : hC z RX11 cX11_cut := C
  have hZ := E.2.2.2.1
  show hX z 0 0 (T, I, L, R, A) [(0, .ref (A 63)), (1, .int i)] 0 []
  refine x_iload_n C dX11_cut_0 1 rfl rfl ?_
  refine x_iconst (v := nI 0) C dX11_cut_1 (by decide +kernel) ?_
  refine x_aload_n C dX11_cut_2 0 rfl rfl ?_
  refine x_getiN C fl_X11_450 mO.1 rfl dX11_cut_3 ?_
  refine x_eqi (y := nI ln) hln ?_
  refine x_callS C (ok_X11_in i (nI 0) (nI ln)) ms_X11_in ml_X11_366 rfl rfl (Nat.le_of_ble_eq_true rfl) (hrm (rm := { frames := 0, cells := 0, slots := 0, locals := 0 }) hZ ⟨Nat.le_of_ble_eq_true rfl, Nat.le_of_ble_eq_true rfl⟩) (hcs hZ ⟨Nat.le_of_ble_eq_true rfl, Nat.le_of_ble_eq_true rfl⟩) dX11_cut_6 (fun v G' hp => ?_)
  obtain ⟨rfl, rfl⟩ := hp
  show hX z 0 0 (T, I, L, R, A) [(0, .ref (A 63)), (1, .int i)] 9 [.int (bI (decide ((nI 0) ≤ i ∧ i ≤ (nI ln))))]
  refine x_eqi (y := nI 0) (by rw [in_badM hbd]; rfl) ?_
  refine x_if_neN (tgt := 15) C (by omega) dX11_cut_9 (by decide) (fun c9 => absurd c9 (by omega)) (fun c9 => ?_)
  refine x_bipush (v := (-2)) C dX11_cut_12 (by decide +kernel) ?_
  exact x_iret C E (Nat.le_of_ble_eq_true rfl) (Nat.le_of_ble_eq_true rfl) dX11_cut_14 (⟨rfl, rfl⟩)

set_option maxHeartbeats 4000000 in
set_option maxRecDepth 100000 in
theorem ok_X11_cut {l : Launch} {a0 : Nat} {D : va_G} {sa : Nat → Nat} {T : Nat → Option hKd} {I : Nat → Nat → Int32} {L : Nat → Nat → Int64} {R : Nat → Nat → Option Nat} {A : Nat → Nat} (mO : isM T R A a0) (ln : Nat) (hln : I 63 58 = nI ln) (hl160 : ln ≤ 160) (k : Nat) (hk : k ≤ ln) : hM l a0 D sa yX11_cut cX11_cut 3 (some .int) { frames := 1, cells := 0, slots := 0, locals := 22 } [.ref (A 63), .int (nI k)] (T, I, L, R, A) (fun r G' => r = some (.int (nI (ln - k))) ∧ ∃ I', G' = (T, I', L, R, A) ∧ I' = va_up I 63 (upd (I 63) 58 (nI k))) := by
  refine hM.of (by decide +kernel) (Nat.le_of_ble_eq_true rfl) ?_
  intro z hl h0 hD hS hN C E
  subst hl; subst h0; subst hD; subst hS
  have C : hC z RX11 cX11_cut := C
  have hZ := E.2.2.2.1
  show hX z 0 0 (T, I, L, R, A) [(0, .ref (A 63)), (1, .int (nI k))] 0 []
  refine x_iload_n C dX11_cut_0 1 rfl rfl ?_
  refine x_iconst (v := nI 0) C dX11_cut_1 (by decide +kernel) ?_
  refine x_aload_n C dX11_cut_2 0 rfl rfl ?_
  refine x_getiN C fl_X11_450 mO.1 rfl dX11_cut_3 ?_
  refine x_eqi (y := nI ln) hln ?_
  refine x_callS C (ok_X11_in (nI k) (nI 0) (nI ln)) ms_X11_in ml_X11_366 rfl rfl (Nat.le_of_ble_eq_true rfl) (hrm (rm := { frames := 0, cells := 0, slots := 0, locals := 0 }) hZ ⟨Nat.le_of_ble_eq_true rfl, Nat.le_of_ble_eq_true rfl⟩) (hcs hZ ⟨Nat.le_of_ble_eq_true rfl, Nat.le_of_ble_eq_true rfl⟩) dX11_cut_6 (fun v G' hp => ?_)
  obtain ⟨rfl, rfl⟩ := hp
  show hX z 0 0 (T, I, L, R, A) [(0, .ref (A 63)), (1, .int (nI k))] 9 [.int (bI (decide ((nI 0) ≤ (nI k) ∧ (nI k) ≤ (nI ln))))]
  refine x_eqi (y := nI 1) (by rw [in_okM (by omega) hk]; rfl) ?_
  refine x_if_neN (tgt := 15) C (by omega) dX11_cut_9 (by decide) (fun c9 => ?_) (fun c9 => absurd c9 (by omega))
  refine x_aload_n C dX11_cut_15 0 rfl rfl ?_
  refine x_getiN C fl_X11_450 mO.1 rfl dX11_cut_16 ?_
  refine x_eqi (y := nI ln) hln ?_
  refine x_iload_n C dX11_cut_19 1 rfl rfl ?_
  refine x_isubN C (by omega) dX11_cut_20 ?_
  refine x_istore_n (lv' := [(2, .int (nI (ln - k))), (0, .ref (A 63)), (1, .int (nI k))]) C dX11_cut_21 rfl (Nat.lt_of_lt_of_eq (by decide) hN.symm) rfl ?_
  refine x_aload_n C dX11_cut_22 1 rfl rfl ?_
  refine x_iload_n C dX11_cut_23 2 rfl rfl ?_
  refine x_putiN C fl_X11_450 mO.1 mO.2.1 rfl dX11_cut_24 (fun I1 eI1 => ?_)
  refine x_iload_n C dX11_cut_27 0 rfl rfl ?_
  exact x_iret C E (Nat.le_of_ble_eq_true rfl) (Nat.le_of_ble_eq_true rfl) dX11_cut_28 (⟨rfl, _, rfl, eI1⟩)

set_option maxHeartbeats 4000000 in
set_option maxRecDepth 100000 in
theorem bd_X11_byteOf {l : Launch} {a0 : Nat} {D : va_G} {sa : Nat → Nat} {T : Nat → Option hKd} {I : Nat → Nat → Int32} {L : Nat → Nat → Int64} {R : Nat → Nat → Option Nat} {A : Nat → Nat} (mO : isM T R A a0) (w i : Int32) (hbd : w < 0 ∨ nI 2 < w) : hM l a0 D sa yX11_byteOf cX11_byteOf 4 (some .int) { frames := 1, cells := 0, slots := 0, locals := 22 } [.ref (A 63), .int w, .int i] (T, I, L, R, A) (fun r G' => r = some (.int (-2)) ∧ G' = (T, I, L, R, A)) := by
  refine hM.of (by decide +kernel) (Nat.le_of_ble_eq_true rfl) ?_
  intro z hl h0 hD hS hN C E
  subst hl; subst h0; subst hD; subst hS
  have C : hC z RX11 cX11_byteOf := C
  have hZ := E.2.2.2.1
  show hX z 0 0 (T, I, L, R, A) [(0, .ref (A 63)), (1, .int w), (2, .int i)] 0 []
  refine x_iload_n C dX11_byteOf_0 1 rfl rfl ?_
  refine x_iconst (v := nI 0) C dX11_byteOf_1 (by decide +kernel) ?_
  refine x_iconst (v := nI 2) C dX11_byteOf_2 (by decide +kernel) ?_
  refine x_callS C (ok_X11_in w (nI 0) (nI 2)) ms_X11_in ml_X11_366 rfl rfl (Nat.le_of_ble_eq_true rfl) (hrm (rm := { frames := 0, cells := 0, slots := 0, locals := 0 }) hZ ⟨Nat.le_of_ble_eq_true rfl, Nat.le_of_ble_eq_true rfl⟩) (hcs hZ ⟨Nat.le_of_ble_eq_true rfl, Nat.le_of_ble_eq_true rfl⟩) dX11_byteOf_3 (fun v G' hp => ?_)
  obtain ⟨rfl, rfl⟩ := hp
  show hX z 0 0 (T, I, L, R, A) [(0, .ref (A 63)), (1, .int w), (2, .int i)] 6 [.int (bI (decide ((nI 0) ≤ w ∧ w ≤ (nI 2))))]
  refine x_eqi (y := nI 0) (by rw [in_badM hbd]; rfl) ?_
  refine x_if_neN (tgt := 12) C (by omega) dX11_byteOf_6 (by decide) (fun c6 => absurd c6 (by omega)) (fun c6 => ?_)
  refine x_bipush (v := (-2)) C dX11_byteOf_9 (by decide +kernel) ?_
  exact x_iret C E (Nat.le_of_ble_eq_true rfl) (Nat.le_of_ble_eq_true rfl) dX11_byteOf_11 (⟨rfl, rfl⟩)

set_option maxHeartbeats 4000000 in
set_option maxRecDepth 100000 in
theorem bd0_X11_byteOf {l : Launch} {a0 : Nat} {D : va_G} {sa : Nat → Nat} {T : Nat → Option hKd} {I : Nat → Nat → Int32} {L : Nat → Nat → Int64} {R : Nat → Nat → Option Nat} {A : Nat → Nat} (mO : isM T R A a0) (n : Nat) (hn : I 63 58 = nI n) (hc : n ≤ 160) (i : Int32) (hbd : i < 0 ∨ nI n ≤ i) : hM l a0 D sa yX11_byteOf cX11_byteOf 4 (some .int) { frames := 1, cells := 0, slots := 0, locals := 22 } [.ref (A 63), .int (nI 0), .int i] (T, I, L, R, A) (fun r G' => r = some (.int (-1)) ∧ G' = (T, I, L, R, A)) := by
  refine hM.of (by decide +kernel) (Nat.le_of_ble_eq_true rfl) ?_
  intro z hl h0 hD hS hN C E
  subst hl; subst h0; subst hD; subst hS
  have C : hC z RX11 cX11_byteOf := C
  have hZ := E.2.2.2.1
  show hX z 0 0 (T, I, L, R, A) [(0, .ref (A 63)), (1, .int (nI 0)), (2, .int i)] 0 []
  refine x_iload_n C dX11_byteOf_0 1 rfl rfl ?_
  refine x_iconst (v := nI 0) C dX11_byteOf_1 (by decide +kernel) ?_
  refine x_iconst (v := nI 2) C dX11_byteOf_2 (by decide +kernel) ?_
  refine x_callS C (ok_X11_in (nI 0) (nI 0) (nI 2)) ms_X11_in ml_X11_366 rfl rfl (Nat.le_of_ble_eq_true rfl) (hrm (rm := { frames := 0, cells := 0, slots := 0, locals := 0 }) hZ ⟨Nat.le_of_ble_eq_true rfl, Nat.le_of_ble_eq_true rfl⟩) (hcs hZ ⟨Nat.le_of_ble_eq_true rfl, Nat.le_of_ble_eq_true rfl⟩) dX11_byteOf_3 (fun v G' hp => ?_)
  obtain ⟨rfl, rfl⟩ := hp
  show hX z 0 0 (T, I, L, R, A) [(0, .ref (A 63)), (1, .int (nI 0)), (2, .int i)] 6 [.int (bI (decide ((nI 0) ≤ (nI 0) ∧ (nI 0) ≤ (nI 2))))]
  refine x_eqi (y := nI 1) (by decide +kernel) ?_
  refine x_if_neN (tgt := 12) C (by omega) dX11_byteOf_6 (by decide) (fun c6 => ?_) (fun c6 => absurd c6 (by omega))
  refine x_iload_n C dX11_byteOf_12 1 rfl rfl ?_
  refine x_if_neN (tgt := 23) C (by omega) dX11_byteOf_13 (by decide) (fun c13 => absurd c13 (by omega)) (fun c13 => ?_)
  refine x_aload_n C dX11_byteOf_16 0 rfl rfl ?_
  refine x_getiN C fl_X11_450 mO.1 rfl dX11_byteOf_17 ?_
  refine x_eqi (y := nI n) hn ?_
  refine x_goto (tgt := 39) C dX11_byteOf_20 (by decide) ?_
  refine x_istore_n (lv' := [(3, .int (nI n)), (0, .ref (A 63)), (1, .int (nI 0)), (2, .int i)]) C dX11_byteOf_39 rfl (Nat.lt_of_lt_of_eq (by decide) hN.symm) rfl ?_
  refine x_iload_n C dX11_byteOf_40 3 rfl rfl ?_
  refine x_iconst (v := nI 0) C dX11_byteOf_41 (by decide +kernel) ?_
  refine x_iload_n C dX11_byteOf_42 0 rfl rfl ?_
  refine x_iconst (v := nI 1) C dX11_byteOf_43 (by decide +kernel) ?_
  refine x_isub C dX11_byteOf_44 ?_
  refine x_callS C (ok_X11_in i (nI 0) ((nI n) - (nI 1))) ms_X11_in ml_X11_366 rfl rfl (Nat.le_of_ble_eq_true rfl) (hrm (rm := { frames := 0, cells := 0, slots := 0, locals := 0 }) hZ ⟨Nat.le_of_ble_eq_true rfl, Nat.le_of_ble_eq_true rfl⟩) (hcs hZ ⟨Nat.le_of_ble_eq_true rfl, Nat.le_of_ble_eq_true rfl⟩) dX11_byteOf_45 (fun v G' hp => ?_)
  obtain ⟨rfl, rfl⟩ := hp
  show hX z 0 0 (T, I, L, R, A) [(3, .int (nI n)), (0, .ref (A 63)), (1, .int (nI 0)), (2, .int i)] 48 [.int (bI (decide ((nI 0) ≤ i ∧ i ≤ ((nI n) - (nI 1)))))]
  refine x_eqi (y := nI 0) (by rw [in_badN (by omega) hbd]; rfl) ?_
  refine x_if_neN (tgt := 55) C (by omega) dX11_byteOf_48 (by decide) (fun c48 => absurd c48 (by omega)) (fun c48 => ?_)
  refine x_iconst (v := (-1)) C dX11_byteOf_51 (by decide +kernel) ?_
  refine x_goto (tgt := 88) C dX11_byteOf_52 (by decide) ?_
  exact x_iret C E (Nat.le_of_ble_eq_true rfl) (Nat.le_of_ble_eq_true rfl) dX11_byteOf_88 (⟨rfl, rfl⟩)

set_option maxHeartbeats 4000000 in
set_option maxRecDepth 100000 in
theorem ok0_X11_byteOf {l : Launch} {a0 : Nat} {D : va_G} {sa : Nat → Nat} {T : Nat → Option hKd} {I : Nat → Nat → Int32} {L : Nat → Nat → Int64} {R : Nat → Nat → Option Nat} {A : Nat → Nat} (mO : isM T R A a0) (n : Nat) (hn : I 63 58 = nI n) (hc : n ≤ 160) (k : Nat) (hk : k < n) : hM l a0 D sa yX11_byteOf cX11_byteOf 4 (some .int) { frames := 1, cells := 0, slots := 0, locals := 22 } [.ref (A 63), .int (nI 0), .int (nI k)] (T, I, L, R, A) (fun r G' => r = some (.int (I 57 k)) ∧ G' = (T, I, L, R, A)) := by
  refine hM.of (by decide +kernel) (Nat.le_of_ble_eq_true rfl) ?_
  intro z hl h0 hD hS hN C E
  subst hl; subst h0; subst hD; subst hS
  have C : hC z RX11 cX11_byteOf := C
  have hZ := E.2.2.2.1
  show hX z 0 0 (T, I, L, R, A) [(0, .ref (A 63)), (1, .int (nI 0)), (2, .int (nI k))] 0 []
  refine x_iload_n C dX11_byteOf_0 1 rfl rfl ?_
  refine x_iconst (v := nI 0) C dX11_byteOf_1 (by decide +kernel) ?_
  refine x_iconst (v := nI 2) C dX11_byteOf_2 (by decide +kernel) ?_
  refine x_callS C (ok_X11_in (nI 0) (nI 0) (nI 2)) ms_X11_in ml_X11_366 rfl rfl (Nat.le_of_ble_eq_true rfl) (hrm (rm := { frames := 0, cells := 0, slots := 0, locals := 0 }) hZ ⟨Nat.le_of_ble_eq_true rfl, Nat.le_of_ble_eq_true rfl⟩) (hcs hZ ⟨Nat.le_of_ble_eq_true rfl, Nat.le_of_ble_eq_true rfl⟩) dX11_byteOf_3 (fun v G' hp => ?_)
  obtain ⟨rfl, rfl⟩ := hp
  show hX z 0 0 (T, I, L, R, A) [(0, .ref (A 63)), (1, .int (nI 0)), (2, .int (nI k))] 6 [.int (bI (decide ((nI 0) ≤ (nI 0) ∧ (nI 0) ≤ (nI 2))))]
  refine x_eqi (y := nI 1) (by decide +kernel) ?_
  refine x_if_neN (tgt := 12) C (by omega) dX11_byteOf_6 (by decide) (fun c6 => ?_) (fun c6 => absurd c6 (by omega))
  refine x_iload_n C dX11_byteOf_12 1 rfl rfl ?_
  refine x_if_neN (tgt := 23) C (by omega) dX11_byteOf_13 (by decide) (fun c13 => absurd c13 (by omega)) (fun c13 => ?_)
  refine x_aload_n C dX11_byteOf_16 0 rfl rfl ?_
  refine x_getiN C fl_X11_450 mO.1 rfl dX11_byteOf_17 ?_
  refine x_eqi (y := nI n) hn ?_
  refine x_goto (tgt := 39) C dX11_byteOf_20 (by decide) ?_
  refine x_istore_n (lv' := [(3, .int (nI n)), (0, .ref (A 63)), (1, .int (nI 0)), (2, .int (nI k))]) C dX11_byteOf_39 rfl (Nat.lt_of_lt_of_eq (by decide) hN.symm) rfl ?_
  refine x_iload_n C dX11_byteOf_40 3 rfl rfl ?_
  refine x_iconst (v := nI 0) C dX11_byteOf_41 (by decide +kernel) ?_
  refine x_iload_n C dX11_byteOf_42 0 rfl rfl ?_
  refine x_iconst (v := nI 1) C dX11_byteOf_43 (by decide +kernel) ?_
  refine x_isub C dX11_byteOf_44 ?_
  refine x_callS C (ok_X11_in (nI k) (nI 0) ((nI n) - (nI 1))) ms_X11_in ml_X11_366 rfl rfl (Nat.le_of_ble_eq_true rfl) (hrm (rm := { frames := 0, cells := 0, slots := 0, locals := 0 }) hZ ⟨Nat.le_of_ble_eq_true rfl, Nat.le_of_ble_eq_true rfl⟩) (hcs hZ ⟨Nat.le_of_ble_eq_true rfl, Nat.le_of_ble_eq_true rfl⟩) dX11_byteOf_45 (fun v G' hp => ?_)
  obtain ⟨rfl, rfl⟩ := hp
  show hX z 0 0 (T, I, L, R, A) [(3, .int (nI n)), (0, .ref (A 63)), (1, .int (nI 0)), (2, .int (nI k))] 48 [.int (bI (decide ((nI 0) ≤ (nI k) ∧ (nI k) ≤ ((nI n) - (nI 1)))))]
  refine x_eqi (y := nI 1) (by rw [in_okN (by omega) hk]; rfl) ?_
  refine x_if_neN (tgt := 55) C (by omega) dX11_byteOf_48 (by decide) (fun c48 => ?_) (fun c48 => absurd c48 (by omega))
  refine x_iload_n C dX11_byteOf_55 2 rfl rfl ?_
  refine x_if_neN (tgt := 68) C (by omega) dX11_byteOf_56 (by decide) (fun c56 => absurd c56 (by omega)) (fun c56 => ?_)
  refine x_aload_n C dX11_byteOf_59 1 rfl rfl ?_
  refine x_getrN C fl_X11_243 mO.1 rfl (mO.2.2 57 _ rfl).1 dX11_byteOf_60 ?_
  refine x_iload_n C dX11_byteOf_63 3 rfl rfl ?_
  refine x_ialdN C (mO.2.2 57 _ rfl).2.1 (by omega) (by omega) dX11_byteOf_64 ?_
  refine x_goto (tgt := 88) C dX11_byteOf_65 (by decide) ?_
  exact x_iret C E (Nat.le_of_ble_eq_true rfl) (Nat.le_of_ble_eq_true rfl) dX11_byteOf_88 (⟨rfl, rfl⟩)

set_option maxHeartbeats 4000000 in
set_option maxRecDepth 100000 in
theorem bd1_X11_byteOf {l : Launch} {a0 : Nat} {D : va_G} {sa : Nat → Nat} {T : Nat → Option hKd} {I : Nat → Nat → Int32} {L : Nat → Nat → Int64} {R : Nat → Nat → Option Nat} {A : Nat → Nat} (mO : isM T R A a0) (n : Nat) (hn : I 63 60 = nI n) (hc : n ≤ 160) (i : Int32) (hbd : i < 0 ∨ nI n ≤ i) : hM l a0 D sa yX11_byteOf cX11_byteOf 4 (some .int) { frames := 1, cells := 0, slots := 0, locals := 22 } [.ref (A 63), .int (nI 1), .int i] (T, I, L, R, A) (fun r G' => r = some (.int (-1)) ∧ G' = (T, I, L, R, A)) := by
  refine hM.of (by decide +kernel) (Nat.le_of_ble_eq_true rfl) ?_
  intro z hl h0 hD hS hN C E
  subst hl; subst h0; subst hD; subst hS
  have C : hC z RX11 cX11_byteOf := C
  have hZ := E.2.2.2.1
  show hX z 0 0 (T, I, L, R, A) [(0, .ref (A 63)), (1, .int (nI 1)), (2, .int i)] 0 []
  refine x_iload_n C dX11_byteOf_0 1 rfl rfl ?_
  refine x_iconst (v := nI 0) C dX11_byteOf_1 (by decide +kernel) ?_
  refine x_iconst (v := nI 2) C dX11_byteOf_2 (by decide +kernel) ?_
  refine x_callS C (ok_X11_in (nI 1) (nI 0) (nI 2)) ms_X11_in ml_X11_366 rfl rfl (Nat.le_of_ble_eq_true rfl) (hrm (rm := { frames := 0, cells := 0, slots := 0, locals := 0 }) hZ ⟨Nat.le_of_ble_eq_true rfl, Nat.le_of_ble_eq_true rfl⟩) (hcs hZ ⟨Nat.le_of_ble_eq_true rfl, Nat.le_of_ble_eq_true rfl⟩) dX11_byteOf_3 (fun v G' hp => ?_)
  obtain ⟨rfl, rfl⟩ := hp
  show hX z 0 0 (T, I, L, R, A) [(0, .ref (A 63)), (1, .int (nI 1)), (2, .int i)] 6 [.int (bI (decide ((nI 0) ≤ (nI 1) ∧ (nI 1) ≤ (nI 2))))]
  refine x_eqi (y := nI 1) (by decide +kernel) ?_
  refine x_if_neN (tgt := 12) C (by omega) dX11_byteOf_6 (by decide) (fun c6 => ?_) (fun c6 => absurd c6 (by omega))
  refine x_iload_n C dX11_byteOf_12 1 rfl rfl ?_
  refine x_if_neN (tgt := 23) C (by omega) dX11_byteOf_13 (by decide) (fun c13 => ?_) (fun c13 => absurd c13 (by omega))
  refine x_iload_n C dX11_byteOf_23 1 rfl rfl ?_
  refine x_iconst (v := nI 1) C dX11_byteOf_24 (by decide +kernel) ?_
  refine x_icmp_neN (tgt := 35) C (by omega) (by omega) dX11_byteOf_25 (by decide) (fun c25 => absurd c25 (by omega)) (fun c25 => ?_)
  refine x_aload_n C dX11_byteOf_28 0 rfl rfl ?_
  refine x_getiN C fl_X11_457 mO.1 rfl dX11_byteOf_29 ?_
  refine x_eqi (y := nI n) hn ?_
  refine x_goto (tgt := 39) C dX11_byteOf_32 (by decide) ?_
  refine x_istore_n (lv' := [(3, .int (nI n)), (0, .ref (A 63)), (1, .int (nI 1)), (2, .int i)]) C dX11_byteOf_39 rfl (Nat.lt_of_lt_of_eq (by decide) hN.symm) rfl ?_
  refine x_iload_n C dX11_byteOf_40 3 rfl rfl ?_
  refine x_iconst (v := nI 0) C dX11_byteOf_41 (by decide +kernel) ?_
  refine x_iload_n C dX11_byteOf_42 0 rfl rfl ?_
  refine x_iconst (v := nI 1) C dX11_byteOf_43 (by decide +kernel) ?_
  refine x_isub C dX11_byteOf_44 ?_
  refine x_callS C (ok_X11_in i (nI 0) ((nI n) - (nI 1))) ms_X11_in ml_X11_366 rfl rfl (Nat.le_of_ble_eq_true rfl) (hrm (rm := { frames := 0, cells := 0, slots := 0, locals := 0 }) hZ ⟨Nat.le_of_ble_eq_true rfl, Nat.le_of_ble_eq_true rfl⟩) (hcs hZ ⟨Nat.le_of_ble_eq_true rfl, Nat.le_of_ble_eq_true rfl⟩) dX11_byteOf_45 (fun v G' hp => ?_)
  obtain ⟨rfl, rfl⟩ := hp
  show hX z 0 0 (T, I, L, R, A) [(3, .int (nI n)), (0, .ref (A 63)), (1, .int (nI 1)), (2, .int i)] 48 [.int (bI (decide ((nI 0) ≤ i ∧ i ≤ ((nI n) - (nI 1)))))]
  refine x_eqi (y := nI 0) (by rw [in_badN (by omega) hbd]; rfl) ?_
  refine x_if_neN (tgt := 55) C (by omega) dX11_byteOf_48 (by decide) (fun c48 => absurd c48 (by omega)) (fun c48 => ?_)
  refine x_iconst (v := (-1)) C dX11_byteOf_51 (by decide +kernel) ?_
  refine x_goto (tgt := 88) C dX11_byteOf_52 (by decide) ?_
  exact x_iret C E (Nat.le_of_ble_eq_true rfl) (Nat.le_of_ble_eq_true rfl) dX11_byteOf_88 (⟨rfl, rfl⟩)

set_option maxHeartbeats 4000000 in
set_option maxRecDepth 100000 in
theorem ok1_X11_byteOf {l : Launch} {a0 : Nat} {D : va_G} {sa : Nat → Nat} {T : Nat → Option hKd} {I : Nat → Nat → Int32} {L : Nat → Nat → Int64} {R : Nat → Nat → Option Nat} {A : Nat → Nat} (mO : isM T R A a0) (n : Nat) (hn : I 63 60 = nI n) (hc : n ≤ 160) (k : Nat) (hk : k < n) : hM l a0 D sa yX11_byteOf cX11_byteOf 4 (some .int) { frames := 1, cells := 0, slots := 0, locals := 22 } [.ref (A 63), .int (nI 1), .int (nI k)] (T, I, L, R, A) (fun r G' => r = some (.int (I 59 k)) ∧ G' = (T, I, L, R, A)) := by
  refine hM.of (by decide +kernel) (Nat.le_of_ble_eq_true rfl) ?_
  intro z hl h0 hD hS hN C E
  subst hl; subst h0; subst hD; subst hS
  have C : hC z RX11 cX11_byteOf := C
  have hZ := E.2.2.2.1
  show hX z 0 0 (T, I, L, R, A) [(0, .ref (A 63)), (1, .int (nI 1)), (2, .int (nI k))] 0 []
  refine x_iload_n C dX11_byteOf_0 1 rfl rfl ?_
  refine x_iconst (v := nI 0) C dX11_byteOf_1 (by decide +kernel) ?_
  refine x_iconst (v := nI 2) C dX11_byteOf_2 (by decide +kernel) ?_
  refine x_callS C (ok_X11_in (nI 1) (nI 0) (nI 2)) ms_X11_in ml_X11_366 rfl rfl (Nat.le_of_ble_eq_true rfl) (hrm (rm := { frames := 0, cells := 0, slots := 0, locals := 0 }) hZ ⟨Nat.le_of_ble_eq_true rfl, Nat.le_of_ble_eq_true rfl⟩) (hcs hZ ⟨Nat.le_of_ble_eq_true rfl, Nat.le_of_ble_eq_true rfl⟩) dX11_byteOf_3 (fun v G' hp => ?_)
  obtain ⟨rfl, rfl⟩ := hp
  show hX z 0 0 (T, I, L, R, A) [(0, .ref (A 63)), (1, .int (nI 1)), (2, .int (nI k))] 6 [.int (bI (decide ((nI 0) ≤ (nI 1) ∧ (nI 1) ≤ (nI 2))))]
  refine x_eqi (y := nI 1) (by decide +kernel) ?_
  refine x_if_neN (tgt := 12) C (by omega) dX11_byteOf_6 (by decide) (fun c6 => ?_) (fun c6 => absurd c6 (by omega))
  refine x_iload_n C dX11_byteOf_12 1 rfl rfl ?_
  refine x_if_neN (tgt := 23) C (by omega) dX11_byteOf_13 (by decide) (fun c13 => ?_) (fun c13 => absurd c13 (by omega))
  refine x_iload_n C dX11_byteOf_23 1 rfl rfl ?_
  refine x_iconst (v := nI 1) C dX11_byteOf_24 (by decide +kernel) ?_
  refine x_icmp_neN (tgt := 35) C (by omega) (by omega) dX11_byteOf_25 (by decide) (fun c25 => absurd c25 (by omega)) (fun c25 => ?_)
  refine x_aload_n C dX11_byteOf_28 0 rfl rfl ?_
  refine x_getiN C fl_X11_457 mO.1 rfl dX11_byteOf_29 ?_
  refine x_eqi (y := nI n) hn ?_
  refine x_goto (tgt := 39) C dX11_byteOf_32 (by decide) ?_
  refine x_istore_n (lv' := [(3, .int (nI n)), (0, .ref (A 63)), (1, .int (nI 1)), (2, .int (nI k))]) C dX11_byteOf_39 rfl (Nat.lt_of_lt_of_eq (by decide) hN.symm) rfl ?_
  refine x_iload_n C dX11_byteOf_40 3 rfl rfl ?_
  refine x_iconst (v := nI 0) C dX11_byteOf_41 (by decide +kernel) ?_
  refine x_iload_n C dX11_byteOf_42 0 rfl rfl ?_
  refine x_iconst (v := nI 1) C dX11_byteOf_43 (by decide +kernel) ?_
  refine x_isub C dX11_byteOf_44 ?_
  refine x_callS C (ok_X11_in (nI k) (nI 0) ((nI n) - (nI 1))) ms_X11_in ml_X11_366 rfl rfl (Nat.le_of_ble_eq_true rfl) (hrm (rm := { frames := 0, cells := 0, slots := 0, locals := 0 }) hZ ⟨Nat.le_of_ble_eq_true rfl, Nat.le_of_ble_eq_true rfl⟩) (hcs hZ ⟨Nat.le_of_ble_eq_true rfl, Nat.le_of_ble_eq_true rfl⟩) dX11_byteOf_45 (fun v G' hp => ?_)
  obtain ⟨rfl, rfl⟩ := hp
  show hX z 0 0 (T, I, L, R, A) [(3, .int (nI n)), (0, .ref (A 63)), (1, .int (nI 1)), (2, .int (nI k))] 48 [.int (bI (decide ((nI 0) ≤ (nI k) ∧ (nI k) ≤ ((nI n) - (nI 1)))))]
  refine x_eqi (y := nI 1) (by rw [in_okN (by omega) hk]; rfl) ?_
  refine x_if_neN (tgt := 55) C (by omega) dX11_byteOf_48 (by decide) (fun c48 => ?_) (fun c48 => absurd c48 (by omega))
  refine x_iload_n C dX11_byteOf_55 2 rfl rfl ?_
  refine x_if_neN (tgt := 68) C (by omega) dX11_byteOf_56 (by decide) (fun c56 => ?_) (fun c56 => absurd c56 (by omega))
  refine x_iload_n C dX11_byteOf_68 2 rfl rfl ?_
  refine x_iconst (v := nI 1) C dX11_byteOf_69 (by decide +kernel) ?_
  refine x_icmp_neN (tgt := 82) C (by omega) (by omega) dX11_byteOf_70 (by decide) (fun c70 => absurd c70 (by omega)) (fun c70 => ?_)
  refine x_aload_n C dX11_byteOf_73 1 rfl rfl ?_
  refine x_getrN C fl_X11_246 mO.1 rfl (mO.2.2 59 _ rfl).1 dX11_byteOf_74 ?_
  refine x_iload_n C dX11_byteOf_77 3 rfl rfl ?_
  refine x_ialdN C (mO.2.2 59 _ rfl).2.1 (by omega) (by omega) dX11_byteOf_78 ?_
  refine x_goto (tgt := 88) C dX11_byteOf_79 (by decide) ?_
  exact x_iret C E (Nat.le_of_ble_eq_true rfl) (Nat.le_of_ble_eq_true rfl) dX11_byteOf_88 (⟨rfl, rfl⟩)

set_option maxHeartbeats 4000000 in
set_option maxRecDepth 100000 in
theorem bd2_X11_byteOf {l : Launch} {a0 : Nat} {D : va_G} {sa : Nat → Nat} {T : Nat → Option hKd} {I : Nat → Nat → Int32} {L : Nat → Nat → Int64} {R : Nat → Nat → Option Nat} {A : Nat → Nat} (mO : isM T R A a0) (n : Nat) (hn : I 63 56 = nI n) (hc : n ≤ 64) (i : Int32) (hbd : i < 0 ∨ nI n ≤ i) : hM l a0 D sa yX11_byteOf cX11_byteOf 4 (some .int) { frames := 1, cells := 0, slots := 0, locals := 22 } [.ref (A 63), .int (nI 2), .int i] (T, I, L, R, A) (fun r G' => r = some (.int (-1)) ∧ G' = (T, I, L, R, A)) := by
  refine hM.of (by decide +kernel) (Nat.le_of_ble_eq_true rfl) ?_
  intro z hl h0 hD hS hN C E
  subst hl; subst h0; subst hD; subst hS
  have C : hC z RX11 cX11_byteOf := C
  have hZ := E.2.2.2.1
  show hX z 0 0 (T, I, L, R, A) [(0, .ref (A 63)), (1, .int (nI 2)), (2, .int i)] 0 []
  refine x_iload_n C dX11_byteOf_0 1 rfl rfl ?_
  refine x_iconst (v := nI 0) C dX11_byteOf_1 (by decide +kernel) ?_
  refine x_iconst (v := nI 2) C dX11_byteOf_2 (by decide +kernel) ?_
  refine x_callS C (ok_X11_in (nI 2) (nI 0) (nI 2)) ms_X11_in ml_X11_366 rfl rfl (Nat.le_of_ble_eq_true rfl) (hrm (rm := { frames := 0, cells := 0, slots := 0, locals := 0 }) hZ ⟨Nat.le_of_ble_eq_true rfl, Nat.le_of_ble_eq_true rfl⟩) (hcs hZ ⟨Nat.le_of_ble_eq_true rfl, Nat.le_of_ble_eq_true rfl⟩) dX11_byteOf_3 (fun v G' hp => ?_)
  obtain ⟨rfl, rfl⟩ := hp
  show hX z 0 0 (T, I, L, R, A) [(0, .ref (A 63)), (1, .int (nI 2)), (2, .int i)] 6 [.int (bI (decide ((nI 0) ≤ (nI 2) ∧ (nI 2) ≤ (nI 2))))]
  refine x_eqi (y := nI 1) (by decide +kernel) ?_
  refine x_if_neN (tgt := 12) C (by omega) dX11_byteOf_6 (by decide) (fun c6 => ?_) (fun c6 => absurd c6 (by omega))
  refine x_iload_n C dX11_byteOf_12 1 rfl rfl ?_
  refine x_if_neN (tgt := 23) C (by omega) dX11_byteOf_13 (by decide) (fun c13 => ?_) (fun c13 => absurd c13 (by omega))
  refine x_iload_n C dX11_byteOf_23 1 rfl rfl ?_
  refine x_iconst (v := nI 1) C dX11_byteOf_24 (by decide +kernel) ?_
  refine x_icmp_neN (tgt := 35) C (by omega) (by omega) dX11_byteOf_25 (by decide) (fun c25 => ?_) (fun c25 => absurd c25 (by omega))
  refine x_aload_n C dX11_byteOf_35 0 rfl rfl ?_
  refine x_getiN C fl_X11_418 mO.1 rfl dX11_byteOf_36 ?_
  refine x_eqi (y := nI n) hn ?_
  refine x_istore_n (lv' := [(3, .int (nI n)), (0, .ref (A 63)), (1, .int (nI 2)), (2, .int i)]) C dX11_byteOf_39 rfl (Nat.lt_of_lt_of_eq (by decide) hN.symm) rfl ?_
  refine x_iload_n C dX11_byteOf_40 3 rfl rfl ?_
  refine x_iconst (v := nI 0) C dX11_byteOf_41 (by decide +kernel) ?_
  refine x_iload_n C dX11_byteOf_42 0 rfl rfl ?_
  refine x_iconst (v := nI 1) C dX11_byteOf_43 (by decide +kernel) ?_
  refine x_isub C dX11_byteOf_44 ?_
  refine x_callS C (ok_X11_in i (nI 0) ((nI n) - (nI 1))) ms_X11_in ml_X11_366 rfl rfl (Nat.le_of_ble_eq_true rfl) (hrm (rm := { frames := 0, cells := 0, slots := 0, locals := 0 }) hZ ⟨Nat.le_of_ble_eq_true rfl, Nat.le_of_ble_eq_true rfl⟩) (hcs hZ ⟨Nat.le_of_ble_eq_true rfl, Nat.le_of_ble_eq_true rfl⟩) dX11_byteOf_45 (fun v G' hp => ?_)
  obtain ⟨rfl, rfl⟩ := hp
  show hX z 0 0 (T, I, L, R, A) [(3, .int (nI n)), (0, .ref (A 63)), (1, .int (nI 2)), (2, .int i)] 48 [.int (bI (decide ((nI 0) ≤ i ∧ i ≤ ((nI n) - (nI 1)))))]
  refine x_eqi (y := nI 0) (by rw [in_badN (by omega) hbd]; rfl) ?_
  refine x_if_neN (tgt := 55) C (by omega) dX11_byteOf_48 (by decide) (fun c48 => absurd c48 (by omega)) (fun c48 => ?_)
  refine x_iconst (v := (-1)) C dX11_byteOf_51 (by decide +kernel) ?_
  refine x_goto (tgt := 88) C dX11_byteOf_52 (by decide) ?_
  exact x_iret C E (Nat.le_of_ble_eq_true rfl) (Nat.le_of_ble_eq_true rfl) dX11_byteOf_88 (⟨rfl, rfl⟩)

set_option maxHeartbeats 4000000 in
set_option maxRecDepth 100000 in
theorem ok2_X11_byteOf {l : Launch} {a0 : Nat} {D : va_G} {sa : Nat → Nat} {T : Nat → Option hKd} {I : Nat → Nat → Int32} {L : Nat → Nat → Int64} {R : Nat → Nat → Option Nat} {A : Nat → Nat} (mO : isM T R A a0) (n : Nat) (hn : I 63 56 = nI n) (hc : n ≤ 64) (k : Nat) (hk : k < n) : hM l a0 D sa yX11_byteOf cX11_byteOf 4 (some .int) { frames := 1, cells := 0, slots := 0, locals := 22 } [.ref (A 63), .int (nI 2), .int (nI k)] (T, I, L, R, A) (fun r G' => r = some (.int (I 55 k)) ∧ G' = (T, I, L, R, A)) := by
  refine hM.of (by decide +kernel) (Nat.le_of_ble_eq_true rfl) ?_
  intro z hl h0 hD hS hN C E
  subst hl; subst h0; subst hD; subst hS
  have C : hC z RX11 cX11_byteOf := C
  have hZ := E.2.2.2.1
  show hX z 0 0 (T, I, L, R, A) [(0, .ref (A 63)), (1, .int (nI 2)), (2, .int (nI k))] 0 []
  refine x_iload_n C dX11_byteOf_0 1 rfl rfl ?_
  refine x_iconst (v := nI 0) C dX11_byteOf_1 (by decide +kernel) ?_
  refine x_iconst (v := nI 2) C dX11_byteOf_2 (by decide +kernel) ?_
  refine x_callS C (ok_X11_in (nI 2) (nI 0) (nI 2)) ms_X11_in ml_X11_366 rfl rfl (Nat.le_of_ble_eq_true rfl) (hrm (rm := { frames := 0, cells := 0, slots := 0, locals := 0 }) hZ ⟨Nat.le_of_ble_eq_true rfl, Nat.le_of_ble_eq_true rfl⟩) (hcs hZ ⟨Nat.le_of_ble_eq_true rfl, Nat.le_of_ble_eq_true rfl⟩) dX11_byteOf_3 (fun v G' hp => ?_)
  obtain ⟨rfl, rfl⟩ := hp
  show hX z 0 0 (T, I, L, R, A) [(0, .ref (A 63)), (1, .int (nI 2)), (2, .int (nI k))] 6 [.int (bI (decide ((nI 0) ≤ (nI 2) ∧ (nI 2) ≤ (nI 2))))]
  refine x_eqi (y := nI 1) (by decide +kernel) ?_
  refine x_if_neN (tgt := 12) C (by omega) dX11_byteOf_6 (by decide) (fun c6 => ?_) (fun c6 => absurd c6 (by omega))
  refine x_iload_n C dX11_byteOf_12 1 rfl rfl ?_
  refine x_if_neN (tgt := 23) C (by omega) dX11_byteOf_13 (by decide) (fun c13 => ?_) (fun c13 => absurd c13 (by omega))
  refine x_iload_n C dX11_byteOf_23 1 rfl rfl ?_
  refine x_iconst (v := nI 1) C dX11_byteOf_24 (by decide +kernel) ?_
  refine x_icmp_neN (tgt := 35) C (by omega) (by omega) dX11_byteOf_25 (by decide) (fun c25 => ?_) (fun c25 => absurd c25 (by omega))
  refine x_aload_n C dX11_byteOf_35 0 rfl rfl ?_
  refine x_getiN C fl_X11_418 mO.1 rfl dX11_byteOf_36 ?_
  refine x_eqi (y := nI n) hn ?_
  refine x_istore_n (lv' := [(3, .int (nI n)), (0, .ref (A 63)), (1, .int (nI 2)), (2, .int (nI k))]) C dX11_byteOf_39 rfl (Nat.lt_of_lt_of_eq (by decide) hN.symm) rfl ?_
  refine x_iload_n C dX11_byteOf_40 3 rfl rfl ?_
  refine x_iconst (v := nI 0) C dX11_byteOf_41 (by decide +kernel) ?_
  refine x_iload_n C dX11_byteOf_42 0 rfl rfl ?_
  refine x_iconst (v := nI 1) C dX11_byteOf_43 (by decide +kernel) ?_
  refine x_isub C dX11_byteOf_44 ?_
  refine x_callS C (ok_X11_in (nI k) (nI 0) ((nI n) - (nI 1))) ms_X11_in ml_X11_366 rfl rfl (Nat.le_of_ble_eq_true rfl) (hrm (rm := { frames := 0, cells := 0, slots := 0, locals := 0 }) hZ ⟨Nat.le_of_ble_eq_true rfl, Nat.le_of_ble_eq_true rfl⟩) (hcs hZ ⟨Nat.le_of_ble_eq_true rfl, Nat.le_of_ble_eq_true rfl⟩) dX11_byteOf_45 (fun v G' hp => ?_)
  obtain ⟨rfl, rfl⟩ := hp
  show hX z 0 0 (T, I, L, R, A) [(3, .int (nI n)), (0, .ref (A 63)), (1, .int (nI 2)), (2, .int (nI k))] 48 [.int (bI (decide ((nI 0) ≤ (nI k) ∧ (nI k) ≤ ((nI n) - (nI 1)))))]
  refine x_eqi (y := nI 1) (by rw [in_okN (by omega) hk]; rfl) ?_
  refine x_if_neN (tgt := 55) C (by omega) dX11_byteOf_48 (by decide) (fun c48 => ?_) (fun c48 => absurd c48 (by omega))
  refine x_iload_n C dX11_byteOf_55 2 rfl rfl ?_
  refine x_if_neN (tgt := 68) C (by omega) dX11_byteOf_56 (by decide) (fun c56 => ?_) (fun c56 => absurd c56 (by omega))
  refine x_iload_n C dX11_byteOf_68 2 rfl rfl ?_
  refine x_iconst (v := nI 1) C dX11_byteOf_69 (by decide +kernel) ?_
  refine x_icmp_neN (tgt := 82) C (by omega) (by omega) dX11_byteOf_70 (by decide) (fun c70 => ?_) (fun c70 => absurd c70 (by omega))
  refine x_aload_n C dX11_byteOf_82 1 rfl rfl ?_
  refine x_getrN C fl_X11_240 mO.1 rfl (mO.2.2 55 _ rfl).1 dX11_byteOf_83 ?_
  refine x_iload_n C dX11_byteOf_86 3 rfl rfl ?_
  refine x_ialdN C (mO.2.2 55 _ rfl).2.1 (by omega) (by omega) dX11_byteOf_87 ?_
  exact x_iret C E (Nat.le_of_ble_eq_true rfl) (Nat.le_of_ble_eq_true rfl) dX11_byteOf_88 (⟨rfl, rfl⟩)

set_option maxHeartbeats 4000000 in
set_option maxRecDepth 100000 in
theorem bi_X11_hash {l : Launch} {a0 : Nat} {D : va_G} {sa : Nat → Nat} {T : Nat → Option hKd} {I : Nat → Nat → Int32} {L : Nat → Nat → Int64} {R : Nat → Nat → Option Nat} {A : Nat → Nat} (mO : isM T R A a0) (ns : Nat) (hns : I 63 33 = nI ns) (hn4 : ns ≤ 4) (s : Nat) (hs : s < ns) (i : Int32) (hbd : i < 0 ∨ nI 31 < i) : hM l a0 D sa yX11_hash cX11_hash 3 (some .int) { frames := 2, cells := 0, slots := 0, locals := 43 } [.ref (A 63), .int (nI s), .int i] (T, I, L, R, A) (fun r G' => r = some (.int (-2)) ∧ G' = (T, I, L, R, A)) := by
  refine hM.of (by decide +kernel) (Nat.le_of_ble_eq_true rfl) ?_
  intro z hl h0 hD hS hN C E
  subst hl; subst h0; subst hD; subst hS
  have C : hC z RX11 cX11_hash := C
  have hZ := E.2.2.2.1
  show hX z 0 0 (T, I, L, R, A) [(0, .ref (A 63)), (1, .int (nI s)), (2, .int i)] 0 []
  refine x_aload_n C dX11_hash_0 0 rfl rfl ?_
  refine x_iload_n C dX11_hash_1 1 rfl rfl ?_
  refine x_callV C (ok_X11_isSide mO ns hns hn4 s hs) mv_X11_isSide ml_X11_415 mO.1 rfl rfl rfl (Nat.le_of_ble_eq_true rfl) (hrm (rm := { frames := 0, cells := 0, slots := 0, locals := 0 }) hZ ⟨Nat.le_of_ble_eq_true rfl, Nat.le_of_ble_eq_true rfl⟩) (hcs hZ ⟨Nat.le_of_ble_eq_true rfl, Nat.le_of_ble_eq_true rfl⟩) dX11_hash_2 (fun v G' hp => ?_)
  obtain ⟨rfl, rfl⟩ := hp
  show hX z 0 0 (T, I, L, R, A) [(0, .ref (A 63)), (1, .int (nI s)), (2, .int i)] 5 [.int (nI 1)]
  refine x_if_eqN (tgt := 32) C (by omega) dX11_hash_5 (by decide) (fun c5 => absurd c5 (by omega)) (fun c5 => ?_)
  refine x_iload_n C dX11_hash_8 2 rfl rfl ?_
  refine x_iconst (v := nI 0) C dX11_hash_9 (by decide +kernel) ?_
  refine x_bipush (v := nI 31) C dX11_hash_10 (by decide +kernel) ?_
  refine x_callS C (ok_X11_in i (nI 0) (nI 31)) ms_X11_in ml_X11_366 rfl rfl (Nat.le_of_ble_eq_true rfl) (hrm (rm := { frames := 0, cells := 0, slots := 0, locals := 0 }) hZ ⟨Nat.le_of_ble_eq_true rfl, Nat.le_of_ble_eq_true rfl⟩) (hcs hZ ⟨Nat.le_of_ble_eq_true rfl, Nat.le_of_ble_eq_true rfl⟩) dX11_hash_12 (fun v G' hp => ?_)
  obtain ⟨rfl, rfl⟩ := hp
  show hX z 0 0 (T, I, L, R, A) [(0, .ref (A 63)), (1, .int (nI s)), (2, .int i)] 15 [.int (bI (decide ((nI 0) ≤ i ∧ i ≤ (nI 31))))]
  refine x_eqi (y := nI 0) (by rw [in_badM hbd]; rfl) ?_
  refine x_if_eqN (tgt := 32) C (by omega) dX11_hash_15 (by decide) (fun c15 => ?_) (fun c15 => absurd c15 (by omega))
  refine x_bipush (v := (-2)) C dX11_hash_32 (by decide +kernel) ?_
  exact x_iret C E (Nat.le_of_ble_eq_true rfl) (Nat.le_of_ble_eq_true rfl) dX11_hash_34 (⟨rfl, rfl⟩)

set_option maxHeartbeats 4000000 in
set_option maxRecDepth 100000 in
theorem ok_X11_hash {l : Launch} {a0 : Nat} {D : va_G} {sa : Nat → Nat} {T : Nat → Option hKd} {I : Nat → Nat → Int32} {L : Nat → Nat → Int64} {R : Nat → Nat → Option Nat} {A : Nat → Nat} (mO : isM T R A a0) (ns : Nat) (hns : I 63 33 = nI ns) (hn4 : ns ≤ 4) (s : Nat) (hs : s < ns) (k : Nat) (hk : k < 32) : hM l a0 D sa yX11_hash cX11_hash 3 (some .int) { frames := 2, cells := 0, slots := 0, locals := 43 } [.ref (A 63), .int (nI s), .int (nI k)] (T, I, L, R, A) (fun r G' => r = some (.int (I 48 (32 * s + k))) ∧ G' = (T, I, L, R, A)) := by
  refine hM.of (by decide +kernel) (Nat.le_of_ble_eq_true rfl) ?_
  intro z hl h0 hD hS hN C E
  subst hl; subst h0; subst hD; subst hS
  have C : hC z RX11 cX11_hash := C
  have hZ := E.2.2.2.1
  show hX z 0 0 (T, I, L, R, A) [(0, .ref (A 63)), (1, .int (nI s)), (2, .int (nI k))] 0 []
  refine x_aload_n C dX11_hash_0 0 rfl rfl ?_
  refine x_iload_n C dX11_hash_1 1 rfl rfl ?_
  refine x_callV C (ok_X11_isSide mO ns hns hn4 s hs) mv_X11_isSide ml_X11_415 mO.1 rfl rfl rfl (Nat.le_of_ble_eq_true rfl) (hrm (rm := { frames := 0, cells := 0, slots := 0, locals := 0 }) hZ ⟨Nat.le_of_ble_eq_true rfl, Nat.le_of_ble_eq_true rfl⟩) (hcs hZ ⟨Nat.le_of_ble_eq_true rfl, Nat.le_of_ble_eq_true rfl⟩) dX11_hash_2 (fun v G' hp => ?_)
  obtain ⟨rfl, rfl⟩ := hp
  show hX z 0 0 (T, I, L, R, A) [(0, .ref (A 63)), (1, .int (nI s)), (2, .int (nI k))] 5 [.int (nI 1)]
  refine x_if_eqN (tgt := 32) C (by omega) dX11_hash_5 (by decide) (fun c5 => absurd c5 (by omega)) (fun c5 => ?_)
  refine x_iload_n C dX11_hash_8 2 rfl rfl ?_
  refine x_iconst (v := nI 0) C dX11_hash_9 (by decide +kernel) ?_
  refine x_bipush (v := nI 31) C dX11_hash_10 (by decide +kernel) ?_
  refine x_callS C (ok_X11_in (nI k) (nI 0) (nI 31)) ms_X11_in ml_X11_366 rfl rfl (Nat.le_of_ble_eq_true rfl) (hrm (rm := { frames := 0, cells := 0, slots := 0, locals := 0 }) hZ ⟨Nat.le_of_ble_eq_true rfl, Nat.le_of_ble_eq_true rfl⟩) (hcs hZ ⟨Nat.le_of_ble_eq_true rfl, Nat.le_of_ble_eq_true rfl⟩) dX11_hash_12 (fun v G' hp => ?_)
  obtain ⟨rfl, rfl⟩ := hp
  show hX z 0 0 (T, I, L, R, A) [(0, .ref (A 63)), (1, .int (nI s)), (2, .int (nI k))] 15 [.int (bI (decide ((nI 0) ≤ (nI k) ∧ (nI k) ≤ (nI 31))))]
  refine x_eqi (y := nI 1) (by rw [in_okM (by decide) (by omega)]; rfl) ?_
  refine x_if_eqN (tgt := 32) C (by omega) dX11_hash_15 (by decide) (fun c15 => absurd c15 (by omega)) (fun c15 => ?_)
  refine x_aload_n C dX11_hash_18 0 rfl rfl ?_
  refine x_getrN C fl_X11_219 mO.1 rfl (mO.2.2 48 _ rfl).1 dX11_hash_19 ?_
  refine x_bipush (v := nI 32) C dX11_hash_22 (by decide +kernel) ?_
  refine x_iload_n C dX11_hash_24 1 rfl rfl ?_
  refine x_imulN C dX11_hash_25 ?_
  refine x_iload_n C dX11_hash_26 2 rfl rfl ?_
  refine x_iaddN C dX11_hash_27 ?_
  refine x_ialdN C (mO.2.2 48 _ rfl).2.1 (by omega) (by omega) dX11_hash_28 ?_
  refine x_goto (tgt := 34) C dX11_hash_29 (by decide) ?_
  exact x_iret C E (Nat.le_of_ble_eq_true rfl) (Nat.le_of_ble_eq_true rfl) dX11_hash_34 (⟨rfl, rfl⟩)

theorem ab_8 {w : Nat} (hw : w ≤ 8) (h0 : ¬ nI w = nI 0) (h1 : ¬ nI w = nI 1) (h2 : ¬ nI w = nI 2) (h3 : ¬ nI w = nI 3) (h4 : ¬ nI w = nI 4) (h5 : ¬ nI w = nI 5) (h6 : ¬ nI w = nI 6) (h7 : ¬ nI w = nI 7) : nI w = nI 8 := by
  have g : ∀ k, ¬ nI w = nI k → w ≠ k := fun k h e => h (by rw [e])
  have := g 0 h0; have := g 1 h1; have := g 2 h2; have := g 3 h3; have := g 4 h4; have := g 5 h5; have := g 6 h6; have := g 7 h7
  rw [show w = 8 by omega]
set_option maxHeartbeats 4000000 in
set_option maxRecDepth 100000 in
theorem ok_X11_aboutOf {l : Launch} {a0 : Nat} {D : va_G} {sa : Nat → Nat} {T : Nat → Option hKd} {I : Nat → Nat → Int32} {L : Nat → Nat → Int64} {R : Nat → Nat → Option Nat} {A : Nat → Nat} (mO : isM T R A a0) (s : Nat) (hs5 : s < 5) (p : Nat) (hp34 : I 34 s = nI p) (ha : Nat) (hha : I 35 s = nI ha) (ha2 : ha < 2) (σ : sgT) (nx : Nat) (dn : Bool) (hE : mdE σ I s dn) (hb : bS σ) (hnx : σ 7 13 = nI nx) (w : Nat) (hw : w ≤ 8) : hM l a0 D sa yX11_aboutOf cX11_aboutOf 3 (some .int) { frames := 0, cells := 0, slots := 0, locals := 0 } [.ref (A 63), .int (nI s), .int (nI w)] (T, I, L, R, A) (fun r G' => r = some (.int (abF p ha nx dn σ (nI w))) ∧ G' = (T, I, L, R, A)) := by
  refine hM.of (by decide +kernel) (Nat.le_of_ble_eq_true rfl) ?_
  intro z hl h0 hD hS hN C E
  subst hl; subst h0; subst hD; subst hS
  have C : hC z RX11 cX11_aboutOf := C
  have hZ := E.2.2.2.1
  show hX z 0 0 (T, I, L, R, A) [(0, .ref (A 63)), (1, .int (nI s)), (2, .int (nI w))] 0 []
  refine x_iload_n C dX11_aboutOf_0 2 rfl rfl ?_
  by_cases s1_0 : nI w = nI 0
  · refine x_tableIn (off := 47) (tgt := 48) C dX11_aboutOf_1 (by rw [s1_0]; decide +kernel) (by rw [s1_0]; decide +kernel) (by rw [s1_0]; decide +kernel) (by decide) ?_
    refine x_aload_n C dX11_aboutOf_48 0 rfl rfl ?_
    refine x_getrN C fl_X11_177 mO.1 rfl (mO.2.2 34 _ rfl).1 dX11_aboutOf_49 ?_
    refine x_iload_n C dX11_aboutOf_52 1 rfl rfl ?_
    refine x_ialdN C (mO.2.2 34 _ rfl).2.1 (by omega) (by omega) dX11_aboutOf_53 ?_
    refine x_eqi (y := nI p) hp34 ?_
    exact x_iret C E (Nat.le_of_ble_eq_true rfl) (Nat.le_of_ble_eq_true rfl) dX11_aboutOf_54 (⟨by unfold abF; rw [if_pos s1_0], rfl⟩)
  by_cases s1_1 : nI w = nI 1
  · refine x_tableIn (off := 54) (tgt := 55) C dX11_aboutOf_1 (by rw [s1_1]; decide +kernel) (by rw [s1_1]; decide +kernel) (by rw [s1_1]; decide +kernel) (by decide) ?_
    refine x_aload_n C dX11_aboutOf_55 0 rfl rfl ?_
    refine x_getrN C fl_X11_180 mO.1 rfl (mO.2.2 35 _ rfl).1 dX11_aboutOf_56 ?_
    refine x_iload_n C dX11_aboutOf_59 1 rfl rfl ?_
    refine x_ialdN C (mO.2.2 35 _ rfl).2.1 (by omega) (by omega) dX11_aboutOf_60 ?_
    refine x_eqi (y := nI ha) hha ?_
    exact x_iret C E (Nat.le_of_ble_eq_true rfl) (Nat.le_of_ble_eq_true rfl) dX11_aboutOf_61 (⟨by unfold abF; rw [if_neg s1_0, if_pos s1_1], rfl⟩)
  by_cases s1_2 : nI w = nI 2
  · refine x_tableIn (off := 61) (tgt := 62) C dX11_aboutOf_1 (by rw [s1_2]; decide +kernel) (by rw [s1_2]; decide +kernel) (by rw [s1_2]; decide +kernel) (by decide) ?_
    refine x_aload_n C dX11_aboutOf_62 0 rfl rfl ?_
    refine x_getrN C fl_X11_195 mO.1 rfl (mO.2.2 40 _ rfl).1 dX11_aboutOf_63 ?_
    refine x_iload_n C dX11_aboutOf_66 1 rfl rfl ?_
    refine x_ialdN C (mO.2.2 40 _ rfl).2.1 (by omega) (by omega) dX11_aboutOf_67 ?_
    refine x_eqi (y := nI nx) (hE.2.2.2.2.2.2.2.1.2.2.2.2.2.trans hnx) ?_
    exact x_iret C E (Nat.le_of_ble_eq_true rfl) (Nat.le_of_ble_eq_true rfl) dX11_aboutOf_68 (⟨by unfold abF; rw [if_neg s1_0, if_neg s1_1, if_pos s1_2], rfl⟩)
  by_cases s1_3 : nI w = nI 3
  · refine x_tableIn (off := 68) (tgt := 69) C dX11_aboutOf_1 (by rw [s1_3]; decide +kernel) (by rw [s1_3]; decide +kernel) (by rw [s1_3]; decide +kernel) (by decide) ?_
    refine x_aload_n C dX11_aboutOf_69 0 rfl rfl ?_
    refine x_getrN C fl_X11_198 mO.1 rfl (mO.2.2 41 _ rfl).1 dX11_aboutOf_70 ?_
    refine x_iload_n C dX11_aboutOf_73 1 rfl rfl ?_
    refine x_zaldN C (mO.2.2 41 _ rfl).2.1 (by omega) (by omega) dX11_aboutOf_74 ?_
    refine x_eqi (y := bI dn) hE.2.2.2.2.2.2.2.2.2 ?_
    refine x_if_eq (tgt := 82) C dX11_aboutOf_75 (by decide) (fun c75 => ?_) (fun c75 => ?_)
    · refine x_iconst (v := nI 0) C dX11_aboutOf_82 (by decide +kernel) ?_
      exact x_iret C E (Nat.le_of_ble_eq_true rfl) (Nat.le_of_ble_eq_true rfl) dX11_aboutOf_83 (⟨by unfold abF; rw [if_neg s1_0, if_neg s1_1, if_neg s1_2, if_pos s1_3]; first | (rw [bI_F c75]; rfl) | (rw [bI_T c75]; rfl), rfl⟩)
    · refine x_iconst (v := nI 1) C dX11_aboutOf_78 (by decide +kernel) ?_
      refine x_goto (tgt := 83) C dX11_aboutOf_79 (by decide) ?_
      exact x_iret C E (Nat.le_of_ble_eq_true rfl) (Nat.le_of_ble_eq_true rfl) dX11_aboutOf_83 (⟨by unfold abF; rw [if_neg s1_0, if_neg s1_1, if_neg s1_2, if_pos s1_3]; first | (rw [bI_F c75]; rfl) | (rw [bI_T c75]; rfl), rfl⟩)
  by_cases s1_4 : nI w = nI 4
  · refine x_tableIn (off := 83) (tgt := 84) C dX11_aboutOf_1 (by rw [s1_4]; decide +kernel) (by rw [s1_4]; decide +kernel) (by rw [s1_4]; decide +kernel) (by decide) ?_
    refine x_aload_n C dX11_aboutOf_84 0 rfl rfl ?_
    refine x_getrN C fl_X11_201 mO.1 rfl (mO.2.2 42 _ rfl).1 dX11_aboutOf_85 ?_
    refine x_iload_n C dX11_aboutOf_88 1 rfl rfl ?_
    refine x_zaldN C (mO.2.2 42 _ rfl).2.1 (by omega) (by omega) dX11_aboutOf_89 ?_
    refine x_eqi (y := σ 7 7) hE.2.2.2.2.2.2.2.1.1 ?_
    refine x_if_eq (tgt := 97) C dX11_aboutOf_90 (by decide) (fun c90 => ?_) (fun c90 => ?_)
    · refine x_iconst (v := nI 0) C dX11_aboutOf_97 (by decide +kernel) ?_
      exact x_iret C E (Nat.le_of_ble_eq_true rfl) (Nat.le_of_ble_eq_true rfl) dX11_aboutOf_98 (⟨by unfold abF; rw [if_neg s1_0, if_neg s1_1, if_neg s1_2, if_neg s1_3, if_pos s1_4]; first | (rw [c90]; rfl) | (rw [b01_T (hb.2.2.2 7 (by decide) (by decide)) c90]), rfl⟩)
    · refine x_iconst (v := nI 1) C dX11_aboutOf_93 (by decide +kernel) ?_
      refine x_goto (tgt := 98) C dX11_aboutOf_94 (by decide) ?_
      exact x_iret C E (Nat.le_of_ble_eq_true rfl) (Nat.le_of_ble_eq_true rfl) dX11_aboutOf_98 (⟨by unfold abF; rw [if_neg s1_0, if_neg s1_1, if_neg s1_2, if_neg s1_3, if_pos s1_4]; first | (rw [c90]; rfl) | (rw [b01_T (hb.2.2.2 7 (by decide) (by decide)) c90]), rfl⟩)
  by_cases s1_5 : nI w = nI 5
  · refine x_tableIn (off := 98) (tgt := 99) C dX11_aboutOf_1 (by rw [s1_5]; decide +kernel) (by rw [s1_5]; decide +kernel) (by rw [s1_5]; decide +kernel) (by decide) ?_
    refine x_aload_n C dX11_aboutOf_99 0 rfl rfl ?_
    refine x_getrN C fl_X11_204 mO.1 rfl (mO.2.2 43 _ rfl).1 dX11_aboutOf_100 ?_
    refine x_iload_n C dX11_aboutOf_103 1 rfl rfl ?_
    refine x_ialdN C (mO.2.2 43 _ rfl).2.1 (by omega) (by omega) dX11_aboutOf_104 ?_
    refine x_eqi (y := σ 7 10) hE.2.2.2.2.2.2.2.1.2.2.2.1 ?_
    exact x_iret C E (Nat.le_of_ble_eq_true rfl) (Nat.le_of_ble_eq_true rfl) dX11_aboutOf_105 (⟨by unfold abF; rw [if_neg s1_0, if_neg s1_1, if_neg s1_2, if_neg s1_3, if_neg s1_4, if_pos s1_5], rfl⟩)
  by_cases s1_6 : nI w = nI 6
  · refine x_tableIn (off := 105) (tgt := 106) C dX11_aboutOf_1 (by rw [s1_6]; decide +kernel) (by rw [s1_6]; decide +kernel) (by rw [s1_6]; decide +kernel) (by decide) ?_
    refine x_aload_n C dX11_aboutOf_106 0 rfl rfl ?_
    refine x_getrN C fl_X11_210 mO.1 rfl (mO.2.2 45 _ rfl).1 dX11_aboutOf_107 ?_
    refine x_iload_n C dX11_aboutOf_110 1 rfl rfl ?_
    refine x_zaldN C (mO.2.2 45 _ rfl).2.1 (by omega) (by omega) dX11_aboutOf_111 ?_
    refine x_eqi (y := σ 7 8) hE.2.2.2.2.2.2.2.1.2.1 ?_
    refine x_if_eq (tgt := 119) C dX11_aboutOf_112 (by decide) (fun c112 => ?_) (fun c112 => ?_)
    · refine x_iconst (v := nI 0) C dX11_aboutOf_119 (by decide +kernel) ?_
      exact x_iret C E (Nat.le_of_ble_eq_true rfl) (Nat.le_of_ble_eq_true rfl) dX11_aboutOf_120 (⟨by unfold abF; rw [if_neg s1_0, if_neg s1_1, if_neg s1_2, if_neg s1_3, if_neg s1_4, if_neg s1_5, if_pos s1_6]; first | (rw [c112]; rfl) | (rw [b01_T (hb.2.2.2 8 (by decide) (by decide)) c112]), rfl⟩)
    · refine x_iconst (v := nI 1) C dX11_aboutOf_115 (by decide +kernel) ?_
      refine x_goto (tgt := 120) C dX11_aboutOf_116 (by decide) ?_
      exact x_iret C E (Nat.le_of_ble_eq_true rfl) (Nat.le_of_ble_eq_true rfl) dX11_aboutOf_120 (⟨by unfold abF; rw [if_neg s1_0, if_neg s1_1, if_neg s1_2, if_neg s1_3, if_neg s1_4, if_neg s1_5, if_pos s1_6]; first | (rw [c112]; rfl) | (rw [b01_T (hb.2.2.2 8 (by decide) (by decide)) c112]), rfl⟩)
  by_cases s1_7 : nI w = nI 7
  · refine x_tableIn (off := 120) (tgt := 121) C dX11_aboutOf_1 (by rw [s1_7]; decide +kernel) (by rw [s1_7]; decide +kernel) (by rw [s1_7]; decide +kernel) (by decide) ?_
    refine x_aload_n C dX11_aboutOf_121 0 rfl rfl ?_
    refine x_getrN C fl_X11_213 mO.1 rfl (mO.2.2 46 _ rfl).1 dX11_aboutOf_122 ?_
    refine x_iload_n C dX11_aboutOf_125 1 rfl rfl ?_
    refine x_zaldN C (mO.2.2 46 _ rfl).2.1 (by omega) (by omega) dX11_aboutOf_126 ?_
    refine x_eqi (y := σ 7 9) hE.2.2.2.2.2.2.2.1.2.2.1 ?_
    refine x_if_eq (tgt := 134) C dX11_aboutOf_127 (by decide) (fun c127 => ?_) (fun c127 => ?_)
    · refine x_iconst (v := nI 0) C dX11_aboutOf_134 (by decide +kernel) ?_
      exact x_iret C E (Nat.le_of_ble_eq_true rfl) (Nat.le_of_ble_eq_true rfl) dX11_aboutOf_135 (⟨by unfold abF; rw [if_neg s1_0, if_neg s1_1, if_neg s1_2, if_neg s1_3, if_neg s1_4, if_neg s1_5, if_neg s1_6, if_pos s1_7]; first | (rw [c127]; rfl) | (rw [b01_T (hb.2.2.2 9 (by decide) (by decide)) c127]), rfl⟩)
    · refine x_iconst (v := nI 1) C dX11_aboutOf_130 (by decide +kernel) ?_
      refine x_goto (tgt := 135) C dX11_aboutOf_131 (by decide) ?_
      exact x_iret C E (Nat.le_of_ble_eq_true rfl) (Nat.le_of_ble_eq_true rfl) dX11_aboutOf_135 (⟨by unfold abF; rw [if_neg s1_0, if_neg s1_1, if_neg s1_2, if_neg s1_3, if_neg s1_4, if_neg s1_5, if_neg s1_6, if_pos s1_7]; first | (rw [c127]; rfl) | (rw [b01_T (hb.2.2.2 9 (by decide) (by decide)) c127]), rfl⟩)
  refine x_tableOut (tgt := 136) C dX11_aboutOf_1 (sw_out7 s1_0 s1_1 s1_2 s1_3 s1_4 s1_5 s1_6 s1_7) (by decide) ?_
  refine x_aload_n C dX11_aboutOf_136 0 rfl rfl ?_
  refine x_getrN C fl_X11_192 mO.1 rfl (mO.2.2 39 _ rfl).1 dX11_aboutOf_137 ?_
  refine x_iload_n C dX11_aboutOf_140 1 rfl rfl ?_
  refine x_ialdN C (mO.2.2 39 _ rfl).2.1 (by omega) (by omega) dX11_aboutOf_141 ?_
  refine x_eqi (y := σ 7 12) hE.2.2.2.2.2.2.2.1.2.2.2.2.1 ?_
  exact x_iret C E (Nat.le_of_ble_eq_true rfl) (Nat.le_of_ble_eq_true rfl) dX11_aboutOf_142 (⟨by unfold abF; rw [if_neg s1_0, if_neg s1_1, if_neg s1_2, if_neg s1_3, if_neg s1_4, if_neg s1_5, if_neg s1_6, if_neg s1_7, if_pos (ab_8 hw s1_0 s1_1 s1_2 s1_3 s1_4 s1_5 s1_6 s1_7)], rfl⟩)

set_option maxHeartbeats 4000000 in
set_option maxRecDepth 100000 in
theorem bi_X11_about {l : Launch} {a0 : Nat} {D : va_G} {sa : Nat → Nat} {T : Nat → Option hKd} {I : Nat → Nat → Int32} {L : Nat → Nat → Int64} {R : Nat → Nat → Option Nat} {A : Nat → Nat} (mO : isM T R A a0) (ns : Nat) (hns : I 63 33 = nI ns) (hn4 : ns ≤ 4) (s : Nat) (hs : s < ns) (w : Int32) (hbd : w < 0 ∨ nI 8 < w) : hM l a0 D sa yX11_about cX11_about 3 (some .int) { frames := 2, cells := 0, slots := 0, locals := 43 } [.ref (A 63), .int (nI s), .int w] (T, I, L, R, A) (fun r G' => r = some (.int (-2)) ∧ G' = (T, I, L, R, A)) := by
  refine hM.of (by decide +kernel) (Nat.le_of_ble_eq_true rfl) ?_
  intro z hl h0 hD hS hN C E
  subst hl; subst h0; subst hD; subst hS
  have C : hC z RX11 cX11_about := C
  have hZ := E.2.2.2.1
  show hX z 0 0 (T, I, L, R, A) [(0, .ref (A 63)), (1, .int (nI s)), (2, .int w)] 0 []
  refine x_aload_n C dX11_about_0 0 rfl rfl ?_
  refine x_iload_n C dX11_about_1 1 rfl rfl ?_
  refine x_callV C (ok_X11_isSide mO ns hns hn4 s hs) mv_X11_isSide ml_X11_415 mO.1 rfl rfl rfl (Nat.le_of_ble_eq_true rfl) (hrm (rm := { frames := 0, cells := 0, slots := 0, locals := 0 }) hZ ⟨Nat.le_of_ble_eq_true rfl, Nat.le_of_ble_eq_true rfl⟩) (hcs hZ ⟨Nat.le_of_ble_eq_true rfl, Nat.le_of_ble_eq_true rfl⟩) dX11_about_2 (fun v G' hp => ?_)
  obtain ⟨rfl, rfl⟩ := hp
  show hX z 0 0 (T, I, L, R, A) [(0, .ref (A 63)), (1, .int (nI s)), (2, .int w)] 5 [.int (nI 1)]
  refine x_if_eqN (tgt := 27) C (by omega) dX11_about_5 (by decide) (fun c5 => absurd c5 (by omega)) (fun c5 => ?_)
  refine x_iload_n C dX11_about_8 2 rfl rfl ?_
  refine x_iconst (v := nI 0) C dX11_about_9 (by decide +kernel) ?_
  refine x_bipush (v := nI 8) C dX11_about_10 (by decide +kernel) ?_
  refine x_callS C (ok_X11_in w (nI 0) (nI 8)) ms_X11_in ml_X11_366 rfl rfl (Nat.le_of_ble_eq_true rfl) (hrm (rm := { frames := 0, cells := 0, slots := 0, locals := 0 }) hZ ⟨Nat.le_of_ble_eq_true rfl, Nat.le_of_ble_eq_true rfl⟩) (hcs hZ ⟨Nat.le_of_ble_eq_true rfl, Nat.le_of_ble_eq_true rfl⟩) dX11_about_12 (fun v G' hp => ?_)
  obtain ⟨rfl, rfl⟩ := hp
  show hX z 0 0 (T, I, L, R, A) [(0, .ref (A 63)), (1, .int (nI s)), (2, .int w)] 15 [.int (bI (decide ((nI 0) ≤ w ∧ w ≤ (nI 8))))]
  refine x_eqi (y := nI 0) (by rw [in_badM hbd]; rfl) ?_
  refine x_if_eqN (tgt := 27) C (by omega) dX11_about_15 (by decide) (fun c15 => ?_) (fun c15 => absurd c15 (by omega))
  refine x_bipush (v := (-2)) C dX11_about_27 (by decide +kernel) ?_
  exact x_iret C E (Nat.le_of_ble_eq_true rfl) (Nat.le_of_ble_eq_true rfl) dX11_about_29 (⟨rfl, rfl⟩)

set_option maxHeartbeats 4000000 in
set_option maxRecDepth 100000 in
theorem ok_X11_about {l : Launch} {a0 : Nat} {D : va_G} {sa : Nat → Nat} {T : Nat → Option hKd} {I : Nat → Nat → Int32} {L : Nat → Nat → Int64} {R : Nat → Nat → Option Nat} {A : Nat → Nat} (mO : isM T R A a0) (ns : Nat) (hns : I 63 33 = nI ns) (hn4 : ns ≤ 4) (s : Nat) (hs : s < ns) (p : Nat) (hp34 : I 34 s = nI p) (ha : Nat) (hha : I 35 s = nI ha) (ha2 : ha < 2) (σ : sgT) (nx : Nat) (dn : Bool) (hE : mdE σ I s dn) (hb : bS σ) (hnx : σ 7 13 = nI nx) (w : Nat) (hw : w ≤ 8) : hM l a0 D sa yX11_about cX11_about 3 (some .int) { frames := 2, cells := 0, slots := 0, locals := 43 } [.ref (A 63), .int (nI s), .int (nI w)] (T, I, L, R, A) (fun r G' => r = some (.int (abF p ha nx dn σ (nI w))) ∧ G' = (T, I, L, R, A)) := by
  refine hM.of (by decide +kernel) (Nat.le_of_ble_eq_true rfl) ?_
  intro z hl h0 hD hS hN C E
  subst hl; subst h0; subst hD; subst hS
  have C : hC z RX11 cX11_about := C
  have hZ := E.2.2.2.1
  show hX z 0 0 (T, I, L, R, A) [(0, .ref (A 63)), (1, .int (nI s)), (2, .int (nI w))] 0 []
  refine x_aload_n C dX11_about_0 0 rfl rfl ?_
  refine x_iload_n C dX11_about_1 1 rfl rfl ?_
  refine x_callV C (ok_X11_isSide mO ns hns hn4 s hs) mv_X11_isSide ml_X11_415 mO.1 rfl rfl rfl (Nat.le_of_ble_eq_true rfl) (hrm (rm := { frames := 0, cells := 0, slots := 0, locals := 0 }) hZ ⟨Nat.le_of_ble_eq_true rfl, Nat.le_of_ble_eq_true rfl⟩) (hcs hZ ⟨Nat.le_of_ble_eq_true rfl, Nat.le_of_ble_eq_true rfl⟩) dX11_about_2 (fun v G' hp => ?_)
  obtain ⟨rfl, rfl⟩ := hp
  show hX z 0 0 (T, I, L, R, A) [(0, .ref (A 63)), (1, .int (nI s)), (2, .int (nI w))] 5 [.int (nI 1)]
  refine x_if_eqN (tgt := 27) C (by omega) dX11_about_5 (by decide) (fun c5 => absurd c5 (by omega)) (fun c5 => ?_)
  refine x_iload_n C dX11_about_8 2 rfl rfl ?_
  refine x_iconst (v := nI 0) C dX11_about_9 (by decide +kernel) ?_
  refine x_bipush (v := nI 8) C dX11_about_10 (by decide +kernel) ?_
  refine x_callS C (ok_X11_in (nI w) (nI 0) (nI 8)) ms_X11_in ml_X11_366 rfl rfl (Nat.le_of_ble_eq_true rfl) (hrm (rm := { frames := 0, cells := 0, slots := 0, locals := 0 }) hZ ⟨Nat.le_of_ble_eq_true rfl, Nat.le_of_ble_eq_true rfl⟩) (hcs hZ ⟨Nat.le_of_ble_eq_true rfl, Nat.le_of_ble_eq_true rfl⟩) dX11_about_12 (fun v G' hp => ?_)
  obtain ⟨rfl, rfl⟩ := hp
  show hX z 0 0 (T, I, L, R, A) [(0, .ref (A 63)), (1, .int (nI s)), (2, .int (nI w))] 15 [.int (bI (decide ((nI 0) ≤ (nI w) ∧ (nI w) ≤ (nI 8))))]
  refine x_eqi (y := nI 1) (by rw [in_okM (by decide) hw]; rfl) ?_
  refine x_if_eqN (tgt := 27) C (by omega) dX11_about_15 (by decide) (fun c15 => absurd c15 (by omega)) (fun c15 => ?_)
  refine x_aload_n C dX11_about_18 0 rfl rfl ?_
  refine x_iload_n C dX11_about_19 1 rfl rfl ?_
  refine x_iload_n C dX11_about_20 2 rfl rfl ?_
  refine x_callV C (ok_X11_aboutOf mO s (by omega) p hp34 ha hha ha2 σ nx dn hE hb hnx w hw) mv_X11_aboutOf ml_X11_472 mO.1 rfl rfl rfl (Nat.le_of_ble_eq_true rfl) (hrm (rm := { frames := 0, cells := 0, slots := 0, locals := 0 }) hZ ⟨Nat.le_of_ble_eq_true rfl, Nat.le_of_ble_eq_true rfl⟩) (hcs hZ ⟨Nat.le_of_ble_eq_true rfl, Nat.le_of_ble_eq_true rfl⟩) dX11_about_21 (fun v G' hp => ?_)
  obtain ⟨rfl, rfl⟩ := hp
  show hX z 0 0 (T, I, L, R, A) [(0, .ref (A 63)), (1, .int (nI s)), (2, .int (nI w))] 24 [.int (abF p ha nx dn σ (nI w))]
  refine x_goto (tgt := 29) C dX11_about_24 (by decide) ?_
  exact x_iret C E (Nat.le_of_ble_eq_true rfl) (Nat.le_of_ble_eq_true rfl) dX11_about_29 (⟨rfl, rfl⟩)

set_option maxHeartbeats 4000000 in
set_option maxRecDepth 100000 in
theorem bd_X11_same {l : Launch} {a0 : Nat} {D : va_G} {sa : Nat → Nat} {T : Nat → Option hKd} {I : Nat → Nat → Int32} {L : Nat → Nat → Int64} {R : Nat → Nat → Option Nat} {A : Nat → Nat} (mO : isM T R A a0) (ns : Nat) (hns : I 63 33 = nI ns) (hn4 : ns ≤ 4) (p : Int32) (hb : p < 0 ∨ nI ns ≤ p) (q : Int32) : hM l a0 D sa yX11_same cX11_same 7 (some .int) { frames := 2, cells := 0, slots := 0, locals := 43 } [.ref (A 63), .int p, .int q] (T, I, L, R, A) (fun r G' => r = some (.int (-2)) ∧ G' = (T, I, L, R, A)) := by
  refine hM.of (by decide +kernel) (Nat.le_of_ble_eq_true rfl) ?_
  intro z hl h0 hD hS hN C E
  subst hl; subst h0; subst hD; subst hS
  have C : hC z RX11 cX11_same := C
  have hZ := E.2.2.2.1
  show hX z 0 0 (T, I, L, R, A) [(0, .ref (A 63)), (1, .int p), (2, .int q)] 0 []
  refine x_aload_n C dX11_same_0 0 rfl rfl ?_
  refine x_iload_n C dX11_same_1 1 rfl rfl ?_
  refine x_callV C (bd_X11_isSide mO ns hns hn4 p hb) mv_X11_isSide ml_X11_415 mO.1 rfl rfl rfl (Nat.le_of_ble_eq_true rfl) (hrm (rm := { frames := 0, cells := 0, slots := 0, locals := 0 }) hZ ⟨Nat.le_of_ble_eq_true rfl, Nat.le_of_ble_eq_true rfl⟩) (hcs hZ ⟨Nat.le_of_ble_eq_true rfl, Nat.le_of_ble_eq_true rfl⟩) dX11_same_2 (fun v G' hp => ?_)
  obtain ⟨rfl, rfl⟩ := hp
  show hX z 0 0 (T, I, L, R, A) [(0, .ref (A 63)), (1, .int p), (2, .int q)] 5 [.int (nI 0)]
  refine x_if_eqN (tgt := 16) C (by omega) dX11_same_5 (by decide) (fun c5 => ?_) (fun c5 => absurd c5 (by omega))
  refine x_bipush (v := (-2)) C dX11_same_16 (by decide +kernel) ?_
  exact x_iret C E (Nat.le_of_ble_eq_true rfl) (Nat.le_of_ble_eq_true rfl) dX11_same_18 (⟨rfl, rfl⟩)

set_option maxHeartbeats 4000000 in
set_option maxRecDepth 100000 in
theorem b2_X11_same {l : Launch} {a0 : Nat} {D : va_G} {sa : Nat → Nat} {T : Nat → Option hKd} {I : Nat → Nat → Int32} {L : Nat → Nat → Int64} {R : Nat → Nat → Option Nat} {A : Nat → Nat} (mO : isM T R A a0) (ns : Nat) (hns : I 63 33 = nI ns) (hn4 : ns ≤ 4) (s : Nat) (hs : s < ns) (p : Int32) (hb : p < 0 ∨ nI ns ≤ p)  : hM l a0 D sa yX11_same cX11_same 7 (some .int) { frames := 2, cells := 0, slots := 0, locals := 43 } [.ref (A 63), .int (nI s), .int p] (T, I, L, R, A) (fun r G' => r = some (.int (-2)) ∧ G' = (T, I, L, R, A)) := by
  refine hM.of (by decide +kernel) (Nat.le_of_ble_eq_true rfl) ?_
  intro z hl h0 hD hS hN C E
  subst hl; subst h0; subst hD; subst hS
  have C : hC z RX11 cX11_same := C
  have hZ := E.2.2.2.1
  show hX z 0 0 (T, I, L, R, A) [(0, .ref (A 63)), (1, .int (nI s)), (2, .int p)] 0 []
  refine x_aload_n C dX11_same_0 0 rfl rfl ?_
  refine x_iload_n C dX11_same_1 1 rfl rfl ?_
  refine x_callV C (ok_X11_isSide mO ns hns hn4 s hs) mv_X11_isSide ml_X11_415 mO.1 rfl rfl rfl (Nat.le_of_ble_eq_true rfl) (hrm (rm := { frames := 0, cells := 0, slots := 0, locals := 0 }) hZ ⟨Nat.le_of_ble_eq_true rfl, Nat.le_of_ble_eq_true rfl⟩) (hcs hZ ⟨Nat.le_of_ble_eq_true rfl, Nat.le_of_ble_eq_true rfl⟩) dX11_same_2 (fun v G' hp => ?_)
  obtain ⟨rfl, rfl⟩ := hp
  show hX z 0 0 (T, I, L, R, A) [(0, .ref (A 63)), (1, .int (nI s)), (2, .int p)] 5 [.int (nI 1)]
  refine x_if_eqN (tgt := 16) C (by omega) dX11_same_5 (by decide) (fun c5 => absurd c5 (by omega)) (fun c5 => ?_)
  refine x_aload_n C dX11_same_8 0 rfl rfl ?_
  refine x_iload_n C dX11_same_9 2 rfl rfl ?_
  refine x_callV C (bd_X11_isSide mO ns hns hn4 p hb) mv_X11_isSide ml_X11_415 mO.1 rfl rfl rfl (Nat.le_of_ble_eq_true rfl) (hrm (rm := { frames := 0, cells := 0, slots := 0, locals := 0 }) hZ ⟨Nat.le_of_ble_eq_true rfl, Nat.le_of_ble_eq_true rfl⟩) (hcs hZ ⟨Nat.le_of_ble_eq_true rfl, Nat.le_of_ble_eq_true rfl⟩) dX11_same_10 (fun v G' hp => ?_)
  obtain ⟨rfl, rfl⟩ := hp
  show hX z 0 0 (T, I, L, R, A) [(0, .ref (A 63)), (1, .int (nI s)), (2, .int p)] 13 [.int (nI 0)]
  refine x_if_neN (tgt := 19) C (by omega) dX11_same_13 (by decide) (fun c13 => absurd c13 (by omega)) (fun c13 => ?_)
  refine x_bipush (v := (-2)) C dX11_same_16 (by decide +kernel) ?_
  exact x_iret C E (Nat.le_of_ble_eq_true rfl) (Nat.le_of_ble_eq_true rfl) dX11_same_18 (⟨rfl, rfl⟩)

theorem sm_step {σ τ : sgT} {ha hb i : Nat} {b c : Bool} (h : b = true ↔ (ha ≠ hb ∧ (∀ j, j < i → σ 1 j = τ 1 j) ∧ (∀ j, j < i → σ 2 j = τ 3 j) ∧ ∀ j, j < i → σ 3 j = τ 2 j)) (hc : c = true ↔ (b = true ∧ σ 1 i = τ 1 i ∧ σ 2 i = τ 3 i ∧ σ 3 i = τ 2 i)) : c = true ↔ (ha ≠ hb ∧ (∀ j, j < i + 1 → σ 1 j = τ 1 j) ∧ (∀ j, j < i + 1 → σ 2 j = τ 3 j) ∧ ∀ j, j < i + 1 → σ 3 j = τ 2 j) := by
  rw [hc, h]
  constructor
  · rintro ⟨⟨h0, h1, h2, h3⟩, g1, g2, g3⟩
    refine ⟨h0, fun j hj => ?_, fun j hj => ?_, fun j hj => ?_⟩
    · by_cases e : j = i
      · rw [e]; exact g1
      · exact h1 j (by omega)
    · by_cases e : j = i
      · rw [e]; exact g2
      · exact h2 j (by omega)
    · by_cases e : j = i
      · rw [e]; exact g3
      · exact h3 j (by omega)
  · rintro ⟨h0, h1, h2, h3⟩
    exact ⟨⟨h0, fun j hj => h1 j (by omega), fun j hj => h2 j (by omega), fun j hj => h3 j (by omega)⟩, h1 i (by omega), h2 i (by omega), h3 i (by omega)⟩
set_option maxHeartbeats 4000000 in
set_option maxRecDepth 100000 in
theorem no_X11_same {l : Launch} {a0 : Nat} {D : va_G} {sa : Nat → Nat} {T : Nat → Option hKd} {I : Nat → Nat → Int32} {L : Nat → Nat → Int64} {R : Nat → Nat → Option Nat} {A : Nat → Nat} (mO : isM T R A a0) (ns : Nat) (hns : I 63 33 = nI ns) (hn4 : ns ≤ 4) (s : Nat) (hs : s < ns) (t : Nat) (ht : t < ns) (ha hb : Nat) (hha : I 35 s = nI ha) (hhb : I 35 t = nI hb) (ha2 : ha < 2) (hb2 : hb < 2) (σ τ : sgT) (dn em : Bool) (hE : mdE σ I s dn) (hF : mdE τ I t em) (hnd : dn = false ∨ em = false) : hM l a0 D sa yX11_same cX11_same 7 (some .int) { frames := 2, cells := 0, slots := 0, locals := 43 } [.ref (A 63), .int (nI s), .int (nI t)] (T, I, L, R, A) (fun r G' => r = some (.int (-3)) ∧ G' = (T, I, L, R, A)) := by
  refine hM.of (by decide +kernel) (Nat.le_of_ble_eq_true rfl) ?_
  intro z hl h0 hD hS hN C E
  subst hl; subst h0; subst hD; subst hS
  have C : hC z RX11 cX11_same := C
  have hZ := E.2.2.2.1
  show hX z 0 0 (T, I, L, R, A) [(0, .ref (A 63)), (1, .int (nI s)), (2, .int (nI t))] 0 []
  refine x_aload_n C dX11_same_0 0 rfl rfl ?_
  refine x_iload_n C dX11_same_1 1 rfl rfl ?_
  refine x_callV C (ok_X11_isSide mO ns hns hn4 s hs) mv_X11_isSide ml_X11_415 mO.1 rfl rfl rfl (Nat.le_of_ble_eq_true rfl) (hrm (rm := { frames := 0, cells := 0, slots := 0, locals := 0 }) hZ ⟨Nat.le_of_ble_eq_true rfl, Nat.le_of_ble_eq_true rfl⟩) (hcs hZ ⟨Nat.le_of_ble_eq_true rfl, Nat.le_of_ble_eq_true rfl⟩) dX11_same_2 (fun v G' hp => ?_)
  obtain ⟨rfl, rfl⟩ := hp
  show hX z 0 0 (T, I, L, R, A) [(0, .ref (A 63)), (1, .int (nI s)), (2, .int (nI t))] 5 [.int (nI 1)]
  refine x_if_eqN (tgt := 16) C (by omega) dX11_same_5 (by decide) (fun c5 => absurd c5 (by omega)) (fun c5 => ?_)
  refine x_aload_n C dX11_same_8 0 rfl rfl ?_
  refine x_iload_n C dX11_same_9 2 rfl rfl ?_
  refine x_callV C (ok_X11_isSide mO ns hns hn4 t ht) mv_X11_isSide ml_X11_415 mO.1 rfl rfl rfl (Nat.le_of_ble_eq_true rfl) (hrm (rm := { frames := 0, cells := 0, slots := 0, locals := 0 }) hZ ⟨Nat.le_of_ble_eq_true rfl, Nat.le_of_ble_eq_true rfl⟩) (hcs hZ ⟨Nat.le_of_ble_eq_true rfl, Nat.le_of_ble_eq_true rfl⟩) dX11_same_10 (fun v G' hp => ?_)
  obtain ⟨rfl, rfl⟩ := hp
  show hX z 0 0 (T, I, L, R, A) [(0, .ref (A 63)), (1, .int (nI s)), (2, .int (nI t))] 13 [.int (nI 1)]
  refine x_if_neN (tgt := 19) C (by omega) dX11_same_13 (by decide) (fun c13 => ?_) (fun c13 => absurd c13 (by omega))
  refine x_aload_n C dX11_same_19 0 rfl rfl ?_
  refine x_getrN C fl_X11_198 mO.1 rfl (mO.2.2 41 _ rfl).1 dX11_same_20 ?_
  refine x_iload_n C dX11_same_23 1 rfl rfl ?_
  refine x_zaldN C (mO.2.2 41 _ rfl).2.1 (by omega) (by omega) dX11_same_24 ?_
  refine x_eqi (y := bI dn) hE.2.2.2.2.2.2.2.2.2 ?_
  refine x_if_eq (tgt := 37) C dX11_same_25 (by decide) (fun c25 => ?_) (fun c25 => ?_)
  · refine x_bipush (v := (-3)) C dX11_same_37 (by decide +kernel) ?_
    exact x_iret C E (Nat.le_of_ble_eq_true rfl) (Nat.le_of_ble_eq_true rfl) dX11_same_39 (⟨rfl, rfl⟩)
  · refine x_aload_n C dX11_same_28 0 rfl rfl ?_
    refine x_getrN C fl_X11_198 mO.1 rfl (mO.2.2 41 _ rfl).1 dX11_same_29 ?_
    refine x_iload_n C dX11_same_32 2 rfl rfl ?_
    refine x_zaldN C (mO.2.2 41 _ rfl).2.1 (by omega) (by omega) dX11_same_33 ?_
    refine x_eqi (y := bI em) hF.2.2.2.2.2.2.2.2.2 ?_
    refine x_if_ne (tgt := 40) C dX11_same_34 (by decide) (fun c34 => ?_) (fun c34 => ?_)
    · exact False.elim (by rcases hnd with h | h; (· exact c25 (by rw [h]; rfl)); (· exact c34 (by rw [h]; rfl)))
    · refine x_bipush (v := (-3)) C dX11_same_37 (by decide +kernel) ?_
      exact x_iret C E (Nat.le_of_ble_eq_true rfl) (Nat.le_of_ble_eq_true rfl) dX11_same_39 (⟨rfl, rfl⟩)

set_option maxHeartbeats 4000000 in
set_option maxRecDepth 100000 in
theorem ok_X11_same {l : Launch} {a0 : Nat} {D : va_G} {sa : Nat → Nat} {T : Nat → Option hKd} {I : Nat → Nat → Int32} {L : Nat → Nat → Int64} {R : Nat → Nat → Option Nat} {A : Nat → Nat} (mO : isM T R A a0) (ns : Nat) (hns : I 63 33 = nI ns) (hn4 : ns ≤ 4) (s : Nat) (hs : s < ns) (t : Nat) (ht : t < ns) (ha hb : Nat) (hha : I 35 s = nI ha) (hhb : I 35 t = nI hb) (ha2 : ha < 2) (hb2 : hb < 2) (σ τ : sgT) (dn em : Bool) (hE : mdE σ I s dn) (hF : mdE τ I t em) (hdn : dn = true) (hem : em = true) : hM l a0 D sa yX11_same cX11_same 7 (some .int) { frames := 2, cells := 0, slots := 0, locals := 43 } [.ref (A 63), .int (nI s), .int (nI t)] (T, I, L, R, A) (fun r G' => (∃ q : Bool, r = some (.int (bI q)) ∧ (q = true ↔ (ha ≠ hb ∧ (∀ u, u < 32 → σ 1 u = τ 1 u) ∧ (∀ u, u < 32 → σ 2 u = τ 3 u) ∧ ∀ u, u < 32 → σ 3 u = τ 2 u))) ∧ G' = (T, I, L, R, A)) := by
  refine hM.of (by decide +kernel) (Nat.le_of_ble_eq_true rfl) ?_
  intro z hl h0 hD hS hN C E
  subst hl; subst h0; subst hD; subst hS
  have C : hC z RX11 cX11_same := C
  have hZ := E.2.2.2.1
  show hX z 0 0 (T, I, L, R, A) [(0, .ref (A 63)), (1, .int (nI s)), (2, .int (nI t))] 0 []
  refine x_aload_n C dX11_same_0 0 rfl rfl ?_
  refine x_iload_n C dX11_same_1 1 rfl rfl ?_
  refine x_callV C (ok_X11_isSide mO ns hns hn4 s hs) mv_X11_isSide ml_X11_415 mO.1 rfl rfl rfl (Nat.le_of_ble_eq_true rfl) (hrm (rm := { frames := 0, cells := 0, slots := 0, locals := 0 }) hZ ⟨Nat.le_of_ble_eq_true rfl, Nat.le_of_ble_eq_true rfl⟩) (hcs hZ ⟨Nat.le_of_ble_eq_true rfl, Nat.le_of_ble_eq_true rfl⟩) dX11_same_2 (fun v G' hp => ?_)
  obtain ⟨rfl, rfl⟩ := hp
  show hX z 0 0 (T, I, L, R, A) [(0, .ref (A 63)), (1, .int (nI s)), (2, .int (nI t))] 5 [.int (nI 1)]
  refine x_if_eqN (tgt := 16) C (by omega) dX11_same_5 (by decide) (fun c5 => absurd c5 (by omega)) (fun c5 => ?_)
  refine x_aload_n C dX11_same_8 0 rfl rfl ?_
  refine x_iload_n C dX11_same_9 2 rfl rfl ?_
  refine x_callV C (ok_X11_isSide mO ns hns hn4 t ht) mv_X11_isSide ml_X11_415 mO.1 rfl rfl rfl (Nat.le_of_ble_eq_true rfl) (hrm (rm := { frames := 0, cells := 0, slots := 0, locals := 0 }) hZ ⟨Nat.le_of_ble_eq_true rfl, Nat.le_of_ble_eq_true rfl⟩) (hcs hZ ⟨Nat.le_of_ble_eq_true rfl, Nat.le_of_ble_eq_true rfl⟩) dX11_same_10 (fun v G' hp => ?_)
  obtain ⟨rfl, rfl⟩ := hp
  show hX z 0 0 (T, I, L, R, A) [(0, .ref (A 63)), (1, .int (nI s)), (2, .int (nI t))] 13 [.int (nI 1)]
  refine x_if_neN (tgt := 19) C (by omega) dX11_same_13 (by decide) (fun c13 => ?_) (fun c13 => absurd c13 (by omega))
  refine x_aload_n C dX11_same_19 0 rfl rfl ?_
  refine x_getrN C fl_X11_198 mO.1 rfl (mO.2.2 41 _ rfl).1 dX11_same_20 ?_
  refine x_iload_n C dX11_same_23 1 rfl rfl ?_
  refine x_zaldN C (mO.2.2 41 _ rfl).2.1 (by omega) (by omega) dX11_same_24 ?_
  refine x_eqi (y := bI dn) hE.2.2.2.2.2.2.2.2.2 ?_
  refine x_if_eq (tgt := 37) C dX11_same_25 (by decide) (fun c25 => absurd c25 (by rw [hdn]; decide +kernel)) (fun c25 => ?_)
  refine x_aload_n C dX11_same_28 0 rfl rfl ?_
  refine x_getrN C fl_X11_198 mO.1 rfl (mO.2.2 41 _ rfl).1 dX11_same_29 ?_
  refine x_iload_n C dX11_same_32 2 rfl rfl ?_
  refine x_zaldN C (mO.2.2 41 _ rfl).2.1 (by omega) (by omega) dX11_same_33 ?_
  refine x_eqi (y := bI em) hF.2.2.2.2.2.2.2.2.2 ?_
  refine x_if_ne (tgt := 40) C dX11_same_34 (by decide) (fun c34 => ?_) (fun c34 => absurd c34 (by rw [hem]; decide +kernel))
  have J60 : ∀ (b0 : Bool), (b0 = true ↔ ha ≠ hb) → hX z 0 0 (T, I, L, R, A) [(0, .ref (A 63)), (1, .int (nI s)), (2, .int (nI t))] 60 [.int (bI b0)] := by
    intro b0 hb0
    refine x_istore_n (lv' := [(3, .int (bI b0)), (0, .ref (A 63)), (1, .int (nI s)), (2, .int (nI t))]) C dX11_same_60 rfl (Nat.lt_of_lt_of_eq (by decide) hN.symm) rfl ?_
    refine x_iconst (v := nI 0) C dX11_same_61 (by decide +kernel) ?_
    refine x_istore (lv' := [(4, .int (nI 0)), (3, .int (bI b0)), (0, .ref (A 63)), (1, .int (nI s)), (2, .int (nI t))]) C dX11_same_62 (Nat.lt_of_lt_of_eq (by decide) hN.symm) rfl ?_
    have L64 : ∀ (fuel_ : Nat) (b : Bool) (j : Nat), 32 - j < fuel_ → (j ≤ 32) → (b = true ↔ (ha ≠ hb ∧ (∀ u, u < j → σ 1 u = τ 1 u) ∧ (∀ u, u < j → σ 2 u = τ 3 u) ∧ ∀ u, u < j → σ 3 u = τ 2 u)) → hX z 0 0 (T, I, L, R, A) [(4, .int (nI j)), (3, .int (bI b)), (0, .ref (A 63)), (1, .int (nI s)), (2, .int (nI t))] 64 [] := by
      intro fuel_
      induction fuel_ with
      | zero => intro b j hmz; exact absurd hmz (Nat.not_lt_zero _)
      | succ fuel_ ih64 =>
        intro b j hmz hj hq
        refine x_iload C dX11_same_64 0 rfl ?_
        refine x_bipush (v := nI 32) C dX11_same_66 (by decide +kernel) ?_
        refine x_icmp_geN (tgt := 156) C (by omega) (by omega) dX11_same_68 (by decide) (fun c68 => ?_) (fun c68 => ?_)
        · refine x_iload_n C dX11_same_156 1 rfl rfl ?_
          refine x_if_eq (tgt := 164) C dX11_same_157 (by decide) (fun c157 => ?_) (fun c157 => ?_)
          · refine x_iconst (v := nI 0) C dX11_same_164 (by decide +kernel) ?_
            exact x_iret C E (Nat.le_of_ble_eq_true rfl) (Nat.le_of_ble_eq_true rfl) dX11_same_165 (⟨⟨b, by rw [bI_F c157]; rfl, by rw [hq, show j = 32 by omega]⟩, rfl⟩)
          · refine x_iconst (v := nI 1) C dX11_same_160 (by decide +kernel) ?_
            refine x_goto (tgt := 165) C dX11_same_161 (by decide) ?_
            exact x_iret C E (Nat.le_of_ble_eq_true rfl) (Nat.le_of_ble_eq_true rfl) dX11_same_165 (⟨⟨b, by rw [bI_T c157]; rfl, by rw [hq, show j = 32 by omega]⟩, rfl⟩)
        · refine x_bipush (v := nI 32) C dX11_same_71 (by decide +kernel) ?_
          refine x_iload_n C dX11_same_73 3 rfl rfl ?_
          refine x_imulN C dX11_same_74 ?_
          refine x_iload C dX11_same_75 0 rfl ?_
          refine x_iaddN C dX11_same_77 ?_
          refine x_istore (lv' := [(5, .int (nI (32 * s + j))), (4, .int (nI j)), (3, .int (bI b)), (0, .ref (A 63)), (1, .int (nI s)), (2, .int (nI t))]) C dX11_same_78 (Nat.lt_of_lt_of_eq (by decide) hN.symm) rfl ?_
          refine x_bipush (v := nI 32) C dX11_same_80 (by decide +kernel) ?_
          refine x_iload_n C dX11_same_82 5 rfl rfl ?_
          refine x_imulN C dX11_same_83 ?_
          refine x_iload C dX11_same_84 1 rfl ?_
          refine x_iaddN C dX11_same_86 ?_
          refine x_istore (lv' := [(6, .int (nI (32 * t + j))), (5, .int (nI (32 * s + j))), (4, .int (nI j)), (3, .int (bI b)), (0, .ref (A 63)), (1, .int (nI s)), (2, .int (nI t))]) C dX11_same_87 (Nat.lt_of_lt_of_eq (by decide) hN.symm) rfl ?_
          have J149 : ∀ (c : Bool), (c = true ↔ (b = true ∧ σ 1 j = τ 1 j ∧ σ 2 j = τ 3 j ∧ σ 3 j = τ 2 j)) → hX z 0 0 (T, I, L, R, A) [(6, .int (nI (32 * t + j))), (5, .int (nI (32 * s + j))), (4, .int (nI j)), (3, .int (bI b)), (0, .ref (A 63)), (1, .int (nI s)), (2, .int (nI t))] 149 [.int (bI c)] := by
            intro c hc
            refine x_istore_n (lv' := [(3, .int (bI c)), (6, .int (nI (32 * t + j))), (5, .int (nI (32 * s + j))), (4, .int (nI j)), (0, .ref (A 63)), (1, .int (nI s)), (2, .int (nI t))]) C dX11_same_149 rfl (Nat.lt_of_lt_of_eq (by decide) hN.symm) rfl ?_
            refine x_iinc (v := nI (j + 1)) (lv' := [(4, .int (nI (j + 1))), (3, .int (bI c)), (6, .int (nI (32 * t + j))), (5, .int (nI (32 * s + j))), (0, .ref (A 63)), (1, .int (nI s)), (2, .int (nI t))]) C dX11_same_150 3 rfl (nI_inc 1) (Nat.lt_of_lt_of_eq (by decide) hN.symm) rfl ?_
            refine x_goto (tgt := 64) C dX11_same_153 (by decide) ?_
            refine x_sub (lv' := _) [0, 1, 4, 5, 6] rfl ?_
            exact ih64 c (j + 1) (by omega) (by omega) (sm_step hq hc)
          refine x_iload_n C dX11_same_89 3 rfl rfl ?_
          refine x_if_eq (tgt := 148) C dX11_same_90 (by decide) (fun c90 => ?_) (fun c90 => ?_)
          · refine x_iconst (v := nI 0) C dX11_same_148 (by decide +kernel) ?_
            refine x_sub (lv' := _) [0, 1, 2, 3, 4, 5, 6] rfl ?_
            exact J149 false ⟨fun h => absurd h (by decide), fun h => by first | (have h0 := bI_F c90; rw [h0] at h; exact absurd h.1 (by decide)) | exact absurd h.2.1 c107 | exact absurd h.2.2.1 c124 | exact absurd h.2.2.2 c141⟩
          · refine x_aload_n C dX11_same_93 4 rfl rfl ?_
            refine x_getrN C fl_X11_219 mO.1 rfl (mO.2.2 48 _ rfl).1 dX11_same_94 ?_
            refine x_iload C dX11_same_97 1 rfl ?_
            refine x_ialdN C (mO.2.2 48 _ rfl).2.1 (by omega) (by omega) dX11_same_99 ?_
            refine x_eqi (y := σ 1 j) (hE.2.1 j (by omega)) ?_
            refine x_aload_n C dX11_same_100 4 rfl rfl ?_
            refine x_getrN C fl_X11_219 mO.1 rfl (mO.2.2 48 _ rfl).1 dX11_same_101 ?_
            refine x_iload C dX11_same_104 0 rfl ?_
            refine x_ialdN C (mO.2.2 48 _ rfl).2.1 (by omega) (by omega) dX11_same_106 ?_
            refine x_eqi (y := τ 1 j) (hF.2.1 j (by omega)) ?_
            refine x_icmp_ne (tgt := 148) C dX11_same_107 (by decide) (fun c107 => ?_) (fun c107 => ?_)
            · refine x_iconst (v := nI 0) C dX11_same_148 (by decide +kernel) ?_
              refine x_sub (lv' := _) [0, 1, 2, 3, 4, 5, 6] rfl ?_
              exact J149 false ⟨fun h => absurd h (by decide), fun h => by first | (have h0 := bI_F c90; rw [h0] at h; exact absurd h.1 (by decide)) | exact absurd h.2.1 c107 | exact absurd h.2.2.1 c124 | exact absurd h.2.2.2 c141⟩
            · refine x_aload_n C dX11_same_110 4 rfl rfl ?_
              refine x_getrN C fl_X11_222 mO.1 rfl (mO.2.2 49 _ rfl).1 dX11_same_111 ?_
              refine x_iload C dX11_same_114 1 rfl ?_
              refine x_ialdN C (mO.2.2 49 _ rfl).2.1 (by omega) (by omega) dX11_same_116 ?_
              refine x_eqi (y := σ 2 j) (hE.2.2.1 j (by omega)) ?_
              refine x_aload_n C dX11_same_117 4 rfl rfl ?_
              refine x_getrN C fl_X11_225 mO.1 rfl (mO.2.2 50 _ rfl).1 dX11_same_118 ?_
              refine x_iload C dX11_same_121 0 rfl ?_
              refine x_ialdN C (mO.2.2 50 _ rfl).2.1 (by omega) (by omega) dX11_same_123 ?_
              refine x_eqi (y := τ 3 j) (hF.2.2.2.1 j (by omega)) ?_
              refine x_icmp_ne (tgt := 148) C dX11_same_124 (by decide) (fun c124 => ?_) (fun c124 => ?_)
              · refine x_iconst (v := nI 0) C dX11_same_148 (by decide +kernel) ?_
                refine x_sub (lv' := _) [0, 1, 2, 3, 4, 5, 6] rfl ?_
                exact J149 false ⟨fun h => absurd h (by decide), fun h => by first | (have h0 := bI_F c90; rw [h0] at h; exact absurd h.1 (by decide)) | exact absurd h.2.1 c107 | exact absurd h.2.2.1 c124 | exact absurd h.2.2.2 c141⟩
              · refine x_aload_n C dX11_same_127 4 rfl rfl ?_
                refine x_getrN C fl_X11_225 mO.1 rfl (mO.2.2 50 _ rfl).1 dX11_same_128 ?_
                refine x_iload C dX11_same_131 1 rfl ?_
                refine x_ialdN C (mO.2.2 50 _ rfl).2.1 (by omega) (by omega) dX11_same_133 ?_
                refine x_eqi (y := σ 3 j) (hE.2.2.2.1 j (by omega)) ?_
                refine x_aload_n C dX11_same_134 4 rfl rfl ?_
                refine x_getrN C fl_X11_222 mO.1 rfl (mO.2.2 49 _ rfl).1 dX11_same_135 ?_
                refine x_iload C dX11_same_138 0 rfl ?_
                refine x_ialdN C (mO.2.2 49 _ rfl).2.1 (by omega) (by omega) dX11_same_140 ?_
                refine x_eqi (y := τ 2 j) (hF.2.2.1 j (by omega)) ?_
                refine x_icmp_ne (tgt := 148) C dX11_same_141 (by decide) (fun c141 => ?_) (fun c141 => ?_)
                · refine x_iconst (v := nI 0) C dX11_same_148 (by decide +kernel) ?_
                  refine x_sub (lv' := _) [0, 1, 2, 3, 4, 5, 6] rfl ?_
                  exact J149 false ⟨fun h => absurd h (by decide), fun h => by first | (have h0 := bI_F c90; rw [h0] at h; exact absurd h.1 (by decide)) | exact absurd h.2.1 c107 | exact absurd h.2.2.1 c124 | exact absurd h.2.2.2 c141⟩
                · refine x_iconst (v := nI 1) C dX11_same_144 (by decide +kernel) ?_
                  refine x_goto (tgt := 149) C dX11_same_145 (by decide) ?_
                  refine x_sub (lv' := _) [0, 1, 2, 3, 4, 5, 6] rfl ?_
                  exact J149 true ⟨fun _ => ⟨bI_T c90, c107, c124, c141⟩, fun _ => rfl⟩
    refine x_sub (lv' := _) [0, 1, 2, 3, 4] rfl ?_
    exact L64 _ b0 0 (Nat.lt_succ_self _) (by omega) (hb0.trans ⟨fun h => ⟨h, fun _ h => absurd h (Nat.not_lt_zero _), fun _ h => absurd h (Nat.not_lt_zero _), fun _ h => absurd h (Nat.not_lt_zero _)⟩, fun h => h.1⟩)
  refine x_aload_n C dX11_same_40 0 rfl rfl ?_
  refine x_getrN C fl_X11_180 mO.1 rfl (mO.2.2 35 _ rfl).1 dX11_same_41 ?_
  refine x_iload_n C dX11_same_44 1 rfl rfl ?_
  refine x_ialdN C (mO.2.2 35 _ rfl).2.1 (by omega) (by omega) dX11_same_45 ?_
  refine x_eqi (y := nI ha) hha ?_
  refine x_aload_n C dX11_same_46 0 rfl rfl ?_
  refine x_getrN C fl_X11_180 mO.1 rfl (mO.2.2 35 _ rfl).1 dX11_same_47 ?_
  refine x_iload_n C dX11_same_50 2 rfl rfl ?_
  refine x_ialdN C (mO.2.2 35 _ rfl).2.1 (by omega) (by omega) dX11_same_51 ?_
  refine x_eqi (y := nI hb) hhb ?_
  refine x_icmp_eqN (tgt := 59) C (by omega) (by omega) dX11_same_52 (by decide) (fun c52 => ?_) (fun c52 => ?_)
  · refine x_iconst (v := nI 0) C dX11_same_59 (by decide +kernel) ?_
    refine x_sub (lv' := _) [0, 1, 2] rfl ?_
    exact J60 false ⟨fun h => absurd h (by decide), fun h => absurd c52 h⟩
  · refine x_iconst (v := nI 1) C dX11_same_55 (by decide +kernel) ?_
    refine x_goto (tgt := 60) C dX11_same_56 (by decide) ?_
    refine x_sub (lv' := _) [0, 1, 2] rfl ?_
    exact J60 true ⟨fun _ => c52, fun _ => rfl⟩

set_option maxHeartbeats 4000000 in
set_option maxRecDepth 100000 in
theorem ok_X11_count {l : Launch} {a0 : Nat} {D : va_G} {sa : Nat → Nat} {T : Nat → Option hKd} {I : Nat → Nat → Int32} {L : Nat → Nat → Int64} {R : Nat → Nat → Option Nat} {A : Nat → Nat} (mO : isM T R A a0) (np ns tn ln gn : Nat) (h24 : I 63 24 = nI np) (h33 : I 63 33 = nI ns) (h56 : I 63 56 = nI tn) (h58 : I 63 58 = nI ln) (h60 : I 63 60 = nI gn) (w : Int32) : hM l a0 D sa yX11_count cX11_count 2 (some .int) { frames := 0, cells := 0, slots := 0, locals := 0 } [.ref (A 63), .int w] (T, I, L, R, A) (fun r G' => r = some (.int (cntF np ns tn ln gn w)) ∧ G' = (T, I, L, R, A)) := by
  refine hM.of (by decide +kernel) (Nat.le_of_ble_eq_true rfl) ?_
  intro z hl h0 hD hS hN C E
  subst hl; subst h0; subst hD; subst hS
  have C : hC z RX11 cX11_count := C
  have hZ := E.2.2.2.1
  show hX z 0 0 (T, I, L, R, A) [(0, .ref (A 63)), (1, .int w)] 0 []
  refine x_iload_n C dX11_count_0 1 rfl rfl ?_
  by_cases s1_0 : w = nI 0
  · refine x_tableIn (off := 35) (tgt := 36) C dX11_count_1 (by rw [s1_0]; decide +kernel) (by rw [s1_0]; decide +kernel) (by rw [s1_0]; decide +kernel) (by decide) ?_
    refine x_aload_n C dX11_count_36 0 rfl rfl ?_
    refine x_getiN C fl_X11_363 mO.1 rfl dX11_count_37 ?_
    refine x_eqi (y := nI np) h24 ?_
    exact x_iret C E (Nat.le_of_ble_eq_true rfl) (Nat.le_of_ble_eq_true rfl) dX11_count_40 (⟨by unfold cntF; rw [if_pos s1_0], rfl⟩)
  by_cases s1_1 : w = nI 1
  · refine x_tableIn (off := 40) (tgt := 41) C dX11_count_1 (by rw [s1_1]; decide +kernel) (by rw [s1_1]; decide +kernel) (by rw [s1_1]; decide +kernel) (by decide) ?_
    refine x_aload_n C dX11_count_41 0 rfl rfl ?_
    refine x_getiN C fl_X11_370 mO.1 rfl dX11_count_42 ?_
    refine x_eqi (y := nI ns) h33 ?_
    exact x_iret C E (Nat.le_of_ble_eq_true rfl) (Nat.le_of_ble_eq_true rfl) dX11_count_45 (⟨by unfold cntF; rw [if_neg s1_0, if_pos s1_1], rfl⟩)
  by_cases s1_2 : w = nI 2
  · refine x_tableIn (off := 45) (tgt := 46) C dX11_count_1 (by rw [s1_2]; decide +kernel) (by rw [s1_2]; decide +kernel) (by rw [s1_2]; decide +kernel) (by decide) ?_
    refine x_aload_n C dX11_count_46 0 rfl rfl ?_
    refine x_getiN C fl_X11_418 mO.1 rfl dX11_count_47 ?_
    refine x_eqi (y := nI tn) h56 ?_
    exact x_iret C E (Nat.le_of_ble_eq_true rfl) (Nat.le_of_ble_eq_true rfl) dX11_count_50 (⟨by unfold cntF; rw [if_neg s1_0, if_neg s1_1, if_pos s1_2], rfl⟩)
  by_cases s1_3 : w = nI 3
  · refine x_tableIn (off := 50) (tgt := 51) C dX11_count_1 (by rw [s1_3]; decide +kernel) (by rw [s1_3]; decide +kernel) (by rw [s1_3]; decide +kernel) (by decide) ?_
    refine x_aload_n C dX11_count_51 0 rfl rfl ?_
    refine x_getiN C fl_X11_450 mO.1 rfl dX11_count_52 ?_
    refine x_eqi (y := nI ln) h58 ?_
    exact x_iret C E (Nat.le_of_ble_eq_true rfl) (Nat.le_of_ble_eq_true rfl) dX11_count_55 (⟨by unfold cntF; rw [if_neg s1_0, if_neg s1_1, if_neg s1_2, if_pos s1_3], rfl⟩)
  by_cases s1_4 : w = nI 4
  · refine x_tableIn (off := 55) (tgt := 56) C dX11_count_1 (by rw [s1_4]; decide +kernel) (by rw [s1_4]; decide +kernel) (by rw [s1_4]; decide +kernel) (by decide) ?_
    refine x_aload_n C dX11_count_56 0 rfl rfl ?_
    refine x_getiN C fl_X11_457 mO.1 rfl dX11_count_57 ?_
    refine x_eqi (y := nI gn) h60 ?_
    exact x_iret C E (Nat.le_of_ble_eq_true rfl) (Nat.le_of_ble_eq_true rfl) dX11_count_60 (⟨by unfold cntF; rw [if_neg s1_0, if_neg s1_1, if_neg s1_2, if_neg s1_3, if_pos s1_4], rfl⟩)
  refine x_tableOut (tgt := 61) C dX11_count_1 (sw_out4 s1_0 s1_1 s1_2 s1_3 s1_4) (by decide) ?_
  refine x_bipush (v := (-2)) C dX11_count_61 (by decide +kernel) ?_
  exact x_iret C E (Nat.le_of_ble_eq_true rfl) (Nat.le_of_ble_eq_true rfl) dX11_count_63 (⟨by unfold cntF; rw [if_neg s1_0, if_neg s1_1, if_neg s1_2, if_neg s1_3, if_neg s1_4], rfl⟩)

