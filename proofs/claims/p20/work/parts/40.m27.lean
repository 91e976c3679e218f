/-! ===== the model's numbers modulo 2^255 - 19: sixteen limbs, ten numbers in one row ===== -/
def gB (L : Nat → Nat → Int64) (F : Nat → Nat → Int) : Prop := ∀ o, o < 10 → ∀ i, i < 16 → L 10 (16 * o + i) = lZ (F o i)
theorem gB.w {K L1 : Nat → Nat → Int64} {H : Nat → Nat → Int} {o i : Nat} {v : Int} (h : gB K H) (hi : i < 16) (e : L1 = va_up K 10 (vp_updL (K 10) (16 * o + i) (lZ v))) : gB L1 (va_up H o (va_up (H o) i v)) := by
  intro p hp j hj
  rw [e, up_eq]
  unfold vp_updL
  by_cases c : p = o
  · subst c
    rw [up_eq]
    unfold va_up
    by_cases c2 : j = i
    · rw [if_pos (by omega), if_pos c2]
    · rw [if_neg (by omega), if_neg c2]; exact h p hp j hj
  · rw [up_ne _ _ c, if_neg (by omega)]; exact h p hp j hj
theorem gB.to {K : Nat → Nat → Int64} {H H' : Nat → Nat → Int} (h : gB K H) (e : H = H') : gB K H' := e ▸ h
theorem rd_g {K : Nat → Nat → Int64} {F : Nat → Nat → Int} {N : Nat → Int} {o a i : Nat} (h : gB K (va_up F o (fun j => if j < i then N j else F o j))) (ha : a < 10) (hi : i < 16) : K 10 (16 * a + i) = lZ (F a i) := by
  rw [h a ha i hi]
  by_cases c : a = o
  · subst c; rw [up_eq, if_neg (by omega)]
  · rw [up_ne _ _ c]
theorem wr_g {K L1 : Nat → Nat → Int64} {F : Nat → Nat → Int} {N : Nat → Int} {o i : Nat} {v : Int} (h : gB K (va_up F o (fun j => if j < i then N j else F o j))) (hi : i < 16) (hv : v = N i) (e : L1 = va_up K 10 (vp_updL (K 10) (16 * o + i) (lZ v))) : gB L1 (va_up F o (fun j => if j < i + 1 then N j else F o j)) := by
  refine (h.w hi e).to ?_
  rw [up_eq, up_up]
  exact congrArg (va_up F o) (fill_s N _ hv)
theorem g_0 (F : Nat → Nat → Int) (o : Nat) (N : Nat → Int) : F = va_up F o (fun j => if j < 0 then N j else F o j) := fill_0 F o N
set_option maxHeartbeats 4000000 in
set_option maxRecDepth 100000 in
theorem ok_X11_plus {l : Launch} {a0 : Nat} {D : va_G} {sa : Nat → Nat} {T : Nat → Option hKd} {I : Nat → Nat → Int32} {L : Nat → Nat → Int64} {R : Nat → Nat → Option Nat} {A : Nat → Nat} (mO : isM T R A a0) (o a b : Nat) (ho : o < 10) (ha : a < 10) (hb : b < 10) (F : Nat → Nat → Int) (hF : gB L F) : hM l a0 D sa yX11_plus cX11_plus 5 none { frames := 0, cells := 0, slots := 0, locals := 0 } [.ref (A 63), .int (nI o), .int (nI a), .int (nI b)] (T, I, L, R, A) (fun r G' => r = none ∧ ∃ L', G' = (T, I, L', R, A) ∧ gB L' (va_up F o (fun j => if j < 16 then F a j + F b j else F o j)) ∧ ∀ q, q ≠ 10 → L' q = L q) := by
  refine hM.of (by decide +kernel) (Nat.le_of_ble_eq_true rfl) ?_
  intro z hl h0 hD hS hN C E
  subst hl; subst h0; subst hD; subst hS
  have C : hC z RX11 cX11_plus := C
  have hZ := E.2.2.2.1
  show hX z 0 0 (T, I, L, R, A) [(0, .ref (A 63)), (1, .int (nI o)), (2, .int (nI a)), (3, .int (nI b))] 0 []
  refine x_iconst (v := nI 0) C dX11_plus_0 (by decide +kernel) ?_
  refine x_istore (lv' := [(4, .int (nI 0)), (0, .ref (A 63)), (1, .int (nI o)), (2, .int (nI a)), (3, .int (nI b))]) C dX11_plus_1 (Nat.lt_of_lt_of_eq (by decide) hN.symm) rfl ?_
  have L3 : ∀ (fuel_ : Nat) (i : Nat) (K : Nat → Nat → Int64), 16 - i < fuel_ → (i ≤ 16) → (∀ q, q ≠ 10 → K q = L q) → (gB K (va_up F o (fun j => if j < i then F a j + F b j else F o j))) → hX z 0 0 (T, I, K, R, A) [(4, .int (nI i)), (0, .ref (A 63)), (1, .int (nI o)), (2, .int (nI a)), (3, .int (nI b))] 3 [] := by
    intro fuel_
    induction fuel_ with
    | zero => intro i K hmz; exact absurd hmz (Nat.not_lt_zero _)
    | succ fuel_ ih3 =>
      intro i K hmz hi hK hG
      refine x_iload C dX11_plus_3 0 rfl ?_
      refine x_bipush (v := nI 16) C dX11_plus_5 (by decide +kernel) ?_
      refine x_icmp_geN (tgt := 53) C (by omega) (by omega) dX11_plus_7 (by decide) (fun c7 => ?_) (fun c7 => ?_)
      · exact x_vret C E (Nat.le_of_ble_eq_true rfl) (Nat.le_of_ble_eq_true rfl) dX11_plus_53 (⟨rfl, K, rfl, by rw [show i = 16 by omega] at hG; exact hG, hK⟩)
      · refine x_aload_n C dX11_plus_10 1 rfl rfl ?_
        refine x_getrN C fl_X11_109 mO.1 rfl (mO.2.2 10 _ rfl).1 dX11_plus_11 ?_
        refine x_bipush (v := nI 16) C dX11_plus_14 (by decide +kernel) ?_
        refine x_iload_n C dX11_plus_16 2 rfl rfl ?_
        refine x_imulN C dX11_plus_17 ?_
        refine x_iload C dX11_plus_18 0 rfl ?_
        refine x_iaddN C dX11_plus_20 ?_
        refine x_aload_n C dX11_plus_21 1 rfl rfl ?_
        refine x_getrN C fl_X11_109 mO.1 rfl (mO.2.2 10 _ rfl).1 dX11_plus_22 ?_
        refine x_bipush (v := nI 16) C dX11_plus_25 (by decide +kernel) ?_
        refine x_iload_n C dX11_plus_27 3 rfl rfl ?_
        refine x_imulN C dX11_plus_28 ?_
        refine x_iload C dX11_plus_29 0 rfl ?_
        refine x_iaddN C dX11_plus_31 ?_
        refine x_laldN C (mO.2.2 10 _ rfl).2.1 (by omega) (by omega) dX11_plus_32 ?_
        refine x_eql (y := lZ (F a i)) (rd_g hG (by omega) (by omega)) ?_
        refine x_aload_n C dX11_plus_33 1 rfl rfl ?_
        refine x_getrN C fl_X11_109 mO.1 rfl (mO.2.2 10 _ rfl).1 dX11_plus_34 ?_
        refine x_bipush (v := nI 16) C dX11_plus_37 (by decide +kernel) ?_
        refine x_iload_n C dX11_plus_39 4 rfl rfl ?_
        refine x_imulN C dX11_plus_40 ?_
        refine x_iload C dX11_plus_41 0 rfl ?_
        refine x_iaddN C dX11_plus_43 ?_
        refine x_laldN C (mO.2.2 10 _ rfl).2.1 (by omega) (by omega) dX11_plus_44 ?_
        refine x_eql (y := lZ (F b i)) (rd_g hG (by omega) (by omega)) ?_
        refine x_laddZ C dX11_plus_45 ?_
        refine x_lastN C (mO.2.2 10 _ rfl).2.1 (mO.2.2 10 _ rfl).2.2 (by omega) (by omega) dX11_plus_46 (fun L1 eL1 => ?_)
        refine x_iinc (v := nI (i + 1)) (lv' := [(4, .int (nI (i + 1))), (0, .ref (A 63)), (1, .int (nI o)), (2, .int (nI a)), (3, .int (nI b))]) C dX11_plus_47 0 rfl (nI_inc 1) (Nat.lt_of_lt_of_eq (by decide) hN.symm) rfl ?_
        refine x_goto (tgt := 3) C dX11_plus_50 (by decide) ?_
        refine x_sub (lv' := _) [0, 1, 2, 3, 4] rfl ?_
        exact ih3 (i + 1) L1 (by omega) (by omega) (fun q hq => by rw [eL1, up_ne _ _ hq]; exact hK q hq) (wr_g (N := fun j => F a j + F b j) hG (by omega) rfl eL1)
  refine x_sub (lv' := _) [0, 1, 2, 3, 4] rfl ?_
  exact L3 _ 0 L (Nat.lt_succ_self _) (by omega) (fun _ _ => rfl) (hF.to (g_0 F o _))

set_option maxHeartbeats 4000000 in
set_option maxRecDepth 100000 in
theorem ok_X11_minus {l : Launch} {a0 : Nat} {D : va_G} {sa : Nat → Nat} {T : Nat → Option hKd} {I : Nat → Nat → Int32} {L : Nat → Nat → Int64} {R : Nat → Nat → Option Nat} {A : Nat → Nat} (mO : isM T R A a0) (o a b : Nat) (ho : o < 10) (ha : a < 10) (hb : b < 10) (F : Nat → Nat → Int) (hF : gB L F) : hM l a0 D sa yX11_minus cX11_minus 5 none { frames := 0, cells := 0, slots := 0, locals := 0 } [.ref (A 63), .int (nI o), .int (nI a), .int (nI b)] (T, I, L, R, A) (fun r G' => r = none ∧ ∃ L', G' = (T, I, L', R, A) ∧ gB L' (va_up F o (fun j => if j < 16 then F a j - F b j else F o j)) ∧ ∀ q, q ≠ 10 → L' q = L q) := by
  refine hM.of (by decide +kernel) (Nat.le_of_ble_eq_true rfl) ?_
  intro z hl h0 hD hS hN C E
  subst hl; subst h0; subst hD; subst hS
  have C : hC z RX11 cX11_minus := C
  have hZ := E.2.2.2.1
  show hX z 0 0 (T, I, L, R, A) [(0, .ref (A 63)), (1, .int (nI o)), (2, .int (nI a)), (3, .int (nI b))] 0 []
  refine x_iconst (v := nI 0) C dX11_minus_0 (by decide +kernel) ?_
  refine x_istore (lv' := [(4, .int (nI 0)), (0, .ref (A 63)), (1, .int (nI o)), (2, .int (nI a)), (3, .int (nI b))]) C dX11_minus_1 (Nat.lt_of_lt_of_eq (by decide) hN.symm) rfl ?_
  have L3 : ∀ (fuel_ : Nat) (i : Nat) (K : Nat → Nat → Int64), 16 - i < fuel_ → (i ≤ 16) → (∀ q, q ≠ 10 → K q = L q) → (gB K (va_up F o (fun j => if j < i then F a j - F b j else F o j))) → hX z 0 0 (T, I, K, R, A) [(4, .int (nI i)), (0, .ref (A 63)), (1, .int (nI o)), (2, .int (nI a)), (3, .int (nI b))] 3 [] := by
    intro fuel_
    induction fuel_ with
    | zero => intro i K hmz; exact absurd hmz (Nat.not_lt_zero _)
    | succ fuel_ ih3 =>
      intro i K hmz hi hK hG
      refine x_iload C dX11_minus_3 0 rfl ?_
      refine x_bipush (v := nI 16) C dX11_minus_5 (by decide +kernel) ?_
      refine x_icmp_geN (tgt := 53) C (by omega) (by omega) dX11_minus_7 (by decide) (fun c7 => ?_) (fun c7 => ?_)
      · exact x_vret C E (Nat.le_of_ble_eq_true rfl) (Nat.le_of_ble_eq_true rfl) dX11_minus_53 (⟨rfl, K, rfl, by rw [show i = 16 by omega] at hG; exact hG, hK⟩)
      · refine x_aload_n C dX11_minus_10 1 rfl rfl ?_
        refine x_getrN C fl_X11_109 mO.1 rfl (mO.2.2 10 _ rfl).1 dX11_minus_11 ?_
        refine x_bipush (v := nI 16) C dX11_minus_14 (by decide +kernel) ?_
        refine x_iload_n C dX11_minus_16 2 rfl rfl ?_
        refine x_imulN C dX11_minus_17 ?_
        refine x_iload C dX11_minus_18 0 rfl ?_
        refine x_iaddN C dX11_minus_20 ?_
        refine x_aload_n C dX11_minus_21 1 rfl rfl ?_
        refine x_getrN C fl_X11_109 mO.1 rfl (mO.2.2 10 _ rfl).1 dX11_minus_22 ?_
        refine x_bipush (v := nI 16) C dX11_minus_25 (by decide +kernel) ?_
        refine x_iload_n C dX11_minus_27 3 rfl rfl ?_
        refine x_imulN C dX11_minus_28 ?_
        refine x_iload C dX11_minus_29 0 rfl ?_
        refine x_iaddN C dX11_minus_31 ?_
        refine x_laldN C (mO.2.2 10 _ rfl).2.1 (by omega) (by omega) dX11_minus_32 ?_
        refine x_eql (y := lZ (F a i)) (rd_g hG (by omega) (by omega)) ?_
        refine x_aload_n C dX11_minus_33 1 rfl rfl ?_
        refine x_getrN C fl_X11_109 mO.1 rfl (mO.2.2 10 _ rfl).1 dX11_minus_34 ?_
        refine x_bipush (v := nI 16) C dX11_minus_37 (by decide +kernel) ?_
        refine x_iload_n C dX11_minus_39 4 rfl rfl ?_
        refine x_imulN C dX11_minus_40 ?_
        refine x_iload C dX11_minus_41 0 rfl ?_
        refine x_iaddN C dX11_minus_43 ?_
        refine x_laldN C (mO.2.2 10 _ rfl).2.1 (by omega) (by omega) dX11_minus_44 ?_
        refine x_eql (y := lZ (F b i)) (rd_g hG (by omega) (by omega)) ?_
        refine x_lsubZ C dX11_minus_45 ?_
        refine x_lastN C (mO.2.2 10 _ rfl).2.1 (mO.2.2 10 _ rfl).2.2 (by omega) (by omega) dX11_minus_46 (fun L1 eL1 => ?_)
        refine x_iinc (v := nI (i + 1)) (lv' := [(4, .int (nI (i + 1))), (0, .ref (A 63)), (1, .int (nI o)), (2, .int (nI a)), (3, .int (nI b))]) C dX11_minus_47 0 rfl (nI_inc 1) (Nat.lt_of_lt_of_eq (by decide) hN.symm) rfl ?_
        refine x_goto (tgt := 3) C dX11_minus_50 (by decide) ?_
        refine x_sub (lv' := _) [0, 1, 2, 3, 4] rfl ?_
        exact ih3 (i + 1) L1 (by omega) (by omega) (fun q hq => by rw [eL1, up_ne _ _ hq]; exact hK q hq) (wr_g (N := fun j => F a j - F b j) hG (by omega) rfl eL1)
  refine x_sub (lv' := _) [0, 1, 2, 3, 4] rfl ?_
  exact L3 _ 0 L (Nat.lt_succ_self _) (by omega) (fun _ _ => rfl) (hF.to (g_0 F o _))

set_option maxHeartbeats 4000000 in
set_option maxRecDepth 100000 in
theorem ok_X11_copies {l : Launch} {a0 : Nat} {D : va_G} {sa : Nat → Nat} {T : Nat → Option hKd} {I : Nat → Nat → Int32} {L : Nat → Nat → Int64} {R : Nat → Nat → Option Nat} {A : Nat → Nat} (mO : isM T R A a0) (o a : Nat) (ho : o < 10) (ha : a < 10) (F : Nat → Nat → Int) (hF : gB L F) : hM l a0 D sa yX11_copies cX11_copies 4 none { frames := 0, cells := 0, slots := 0, locals := 0 } [.ref (A 63), .int (nI o), .int (nI a)] (T, I, L, R, A) (fun r G' => r = none ∧ ∃ L', G' = (T, I, L', R, A) ∧ gB L' (va_up F o (fun j => if j < 16 then F a j else F o j)) ∧ ∀ q, q ≠ 10 → L' q = L q) := by
  refine hM.of (by decide +kernel) (Nat.le_of_ble_eq_true rfl) ?_
  intro z hl h0 hD hS hN C E
  subst hl; subst h0; subst hD; subst hS
  have C : hC z RX11 cX11_copies := C
  have hZ := E.2.2.2.1
  show hX z 0 0 (T, I, L, R, A) [(0, .ref (A 63)), (1, .int (nI o)), (2, .int (nI a))] 0 []
  refine x_iconst (v := nI 0) C dX11_copies_0 (by decide +kernel) ?_
  refine x_istore_n (lv' := [(3, .int (nI 0)), (0, .ref (A 63)), (1, .int (nI o)), (2, .int (nI a))]) C dX11_copies_1 rfl (Nat.lt_of_lt_of_eq (by decide) hN.symm) rfl ?_
  have L2 : ∀ (fuel_ : Nat) (i : Nat) (K : Nat → Nat → Int64), 16 - i < fuel_ → (i ≤ 16) → (∀ q, q ≠ 10 → K q = L q) → (gB K (va_up F o (fun j => if j < i then F a j else F o j))) → hX z 0 0 (T, I, K, R, A) [(3, .int (nI i)), (0, .ref (A 63)), (1, .int (nI o)), (2, .int (nI a))] 2 [] := by
    intro fuel_
    induction fuel_ with
    | zero => intro i K hmz; exact absurd hmz (Nat.not_lt_zero _)
    | succ fuel_ ih2 =>
      intro i K hmz hi hK hG
      refine x_iload_n C dX11_copies_2 0 rfl rfl ?_
      refine x_bipush (v := nI 16) C dX11_copies_3 (by decide +kernel) ?_
      refine x_icmp_geN (tgt := 36) C (by omega) (by omega) dX11_copies_5 (by decide) (fun c5 => ?_) (fun c5 => ?_)
      · exact x_vret C E (Nat.le_of_ble_eq_true rfl) (Nat.le_of_ble_eq_true rfl) dX11_copies_36 (⟨rfl, K, rfl, by rw [show i = 16 by omega] at hG; exact hG, hK⟩)
      · refine x_aload_n C dX11_copies_8 1 rfl rfl ?_
        refine x_getrN C fl_X11_109 mO.1 rfl (mO.2.2 10 _ rfl).1 dX11_copies_9 ?_
        refine x_bipush (v := nI 16) C dX11_copies_12 (by decide +kernel) ?_
        refine x_iload_n C dX11_copies_14 2 rfl rfl ?_
        refine x_imulN C dX11_copies_15 ?_
        refine x_iload_n C dX11_copies_16 0 rfl rfl ?_
        refine x_iaddN C dX11_copies_17 ?_
        refine x_aload_n C dX11_copies_18 1 rfl rfl ?_
        refine x_getrN C fl_X11_109 mO.1 rfl (mO.2.2 10 _ rfl).1 dX11_copies_19 ?_
        refine x_bipush (v := nI 16) C dX11_copies_22 (by decide +kernel) ?_
        refine x_iload_n C dX11_copies_24 3 rfl rfl ?_
        refine x_imulN C dX11_copies_25 ?_
        refine x_iload_n C dX11_copies_26 0 rfl rfl ?_
        refine x_iaddN C dX11_copies_27 ?_
        refine x_laldN C (mO.2.2 10 _ rfl).2.1 (by omega) (by omega) dX11_copies_28 ?_
        refine x_eql (y := lZ (F a i)) (rd_g hG (by omega) (by omega)) ?_
        refine x_lastN C (mO.2.2 10 _ rfl).2.1 (mO.2.2 10 _ rfl).2.2 (by omega) (by omega) dX11_copies_29 (fun L1 eL1 => ?_)
        refine x_iinc (v := nI (i + 1)) (lv' := [(3, .int (nI (i + 1))), (0, .ref (A 63)), (1, .int (nI o)), (2, .int (nI a))]) C dX11_copies_30 0 rfl (nI_inc 1) (Nat.lt_of_lt_of_eq (by decide) hN.symm) rfl ?_
        refine x_goto (tgt := 2) C dX11_copies_33 (by decide) ?_
        refine x_sub (lv' := _) [0, 1, 2, 3] rfl ?_
        exact ih2 (i + 1) L1 (by omega) (by omega) (fun q hq => by rw [eL1, up_ne _ _ hq]; exact hK q hq) (wr_g (N := fun j => F a j) hG (by omega) rfl eL1)
  refine x_sub (lv' := _) [0, 1, 2, 3] rfl ?_
  exact L2 _ 0 L (Nat.lt_succ_self _) (by omega) (fun _ _ => rfl) (hF.to (g_0 F o _))

