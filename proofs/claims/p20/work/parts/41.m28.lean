def mOv (f : Nat → Int) : Nat → Int
  | 0 => 0
  | i + 1 => (f i + mOv f i) / 65536
def mG (f : Nat → Int) (i : Nat) : Int := (f i + mOv f i) % 65536
/-- the limbs behind a carry -/
def mCar (f : Nat → Int) (i : Nat) : Int := if i = 0 then mG f 0 + 38 * mOv f 16 else mG f i
/-- the limbs when i of them are carried -/
def mCi (f : Nat → Int) (i j : Nat) : Int := if j < i then (if i = 16 ∧ j = 0 then mG f 0 + 38 * mOv f 16 else mG f j) else if j = i ∧ j < 16 then f j + mOv f j else f j
theorem mOv_b {f : Nat → Int} {n : Nat} (h : ∀ i, i < n → -2 ^ 60 ≤ f i ∧ f i ≤ 2 ^ 60) : ∀ i, i ≤ n → -2 ^ 46 ≤ mOv f i ∧ mOv f i ≤ 2 ^ 46
  | 0, _ => by simp [mOv]
  | i + 1, hi => by
    have ih := mOv_b h i (by omega)
    have hf := h i (by omega)
    simp only [mOv]; omega
theorem mG_b (f : Nat → Int) (i : Nat) : 0 ≤ mG f i ∧ mG f i < 65536 := by unfold mG; omega
set_option maxHeartbeats 4000000 in
set_option maxRecDepth 100000 in
theorem ok_X11_sets {l : Launch} {a0 : Nat} {D : va_G} {sa : Nat → Nat} {T : Nat → Option hKd} {I : Nat → Nat → Int32} {L : Nat → Nat → Int64} {R : Nat → Nat → Option Nat} {A : Nat → Nat} (mO : isM T R A a0) (o : Nat) (v : Int) (ho : o < 10) (F : Nat → Nat → Int) (hF : gB L F) : hM l a0 D sa yX11_sets cX11_sets 5 none { frames := 0, cells := 0, slots := 0, locals := 0 } [.ref (A 63), .int (nI o), .long (lZ v)] (T, I, L, R, A) (fun r G' => r = none ∧ ∃ L', G' = (T, I, L', R, A) ∧ gB L' (va_up F o (fun j => if j < 16 then (if j = 0 then v else 0) else F o j)) ∧ ∀ q, q ≠ 10 → L' q = L q) := by
  refine hM.of (by decide +kernel) (Nat.le_of_ble_eq_true rfl) ?_
  intro z hl h0 hD hS hN C E
  subst hl; subst h0; subst hD; subst hS
  have C : hC z RX11 cX11_sets := C
  have hZ := E.2.2.2.1
  show hX z 0 0 (T, I, L, R, A) [(0, .ref (A 63)), (1, .int (nI o)), (2, .long (lZ v))] 0 []
  refine x_iconst (v := nI 0) C dX11_sets_0 (by decide +kernel) ?_
  refine x_istore (lv' := [(4, .int (nI 0)), (0, .ref (A 63)), (1, .int (nI o)), (2, .long (lZ v))]) C dX11_sets_1 (Nat.lt_of_lt_of_eq (by decide) hN.symm) rfl ?_
  have L3 : ∀ (fuel_ : Nat) (i : Nat) (K : Nat → Nat → Int64), 16 - i < fuel_ → (i ≤ 16) → (∀ q, q ≠ 10 → K q = L q) → (gB K (va_up F o (fun j => if j < i then (if j = 0 then v else 0) else F o j))) → hX z 0 0 (T, I, K, R, A) [(4, .int (nI i)), (0, .ref (A 63)), (1, .int (nI o)), (2, .long (lZ v))] 3 [] := by
    intro fuel_
    induction fuel_ with
    | zero => intro i K hmz; exact absurd hmz (Nat.not_lt_zero _)
    | succ fuel_ ih3 =>
      intro i K hmz hi hK hG
      refine x_iload C dX11_sets_3 0 rfl ?_
      refine x_bipush (v := nI 16) C dX11_sets_5 (by decide +kernel) ?_
      refine x_icmp_geN (tgt := 38) C (by omega) (by omega) dX11_sets_7 (by decide) (fun c7 => ?_) (fun c7 => ?_)
      · exact x_vret C E (Nat.le_of_ble_eq_true rfl) (Nat.le_of_ble_eq_true rfl) dX11_sets_38 (⟨rfl, K, rfl, by rw [show i = 16 by omega] at hG; exact hG, hK⟩)
      · refine x_aload_n C dX11_sets_10 1 rfl rfl ?_
        refine x_getrN C fl_X11_109 mO.1 rfl (mO.2.2 10 _ rfl).1 dX11_sets_11 ?_
        refine x_bipush (v := nI 16) C dX11_sets_14 (by decide +kernel) ?_
        refine x_iload_n C dX11_sets_16 2 rfl rfl ?_
        refine x_imulN C dX11_sets_17 ?_
        refine x_iload C dX11_sets_18 0 rfl ?_
        refine x_iaddN C dX11_sets_20 ?_
        refine x_iload C dX11_sets_21 0 rfl ?_
        refine x_if_neN (tgt := 30) C (by omega) dX11_sets_23 (by decide) (fun c23 => ?_) (fun c23 => ?_)
        · refine x_lconst (v := lZ 0) C dX11_sets_30 (by decide +kernel) ?_
          refine x_lastN C (mO.2.2 10 _ rfl).2.1 (mO.2.2 10 _ rfl).2.2 (by omega) (by omega) dX11_sets_31 (fun L1 eL1 => ?_)
          refine x_iinc (v := nI (i + 1)) (lv' := [(4, .int (nI (i + 1))), (0, .ref (A 63)), (1, .int (nI o)), (2, .long (lZ v))]) C dX11_sets_32 0 rfl (nI_inc 1) (Nat.lt_of_lt_of_eq (by decide) hN.symm) rfl ?_
          refine x_goto (tgt := 3) C dX11_sets_35 (by decide) ?_
          refine x_sub (lv' := _) [0, 1, 2, 3] rfl ?_
          exact ih3 (i + 1) L1 (by omega) (by omega) (fun q hq => by rw [eL1, up_ne _ _ hq]; exact hK q hq) (wr_g (N := fun j => (if j = 0 then v else 0)) hG (by omega) (by rw [if_neg c23]) eL1)
        · refine x_lload_n C dX11_sets_26 3 rfl rfl ?_
          refine x_goto (tgt := 31) C dX11_sets_27 (by decide) ?_
          refine x_lastN C (mO.2.2 10 _ rfl).2.1 (mO.2.2 10 _ rfl).2.2 (by omega) (by omega) dX11_sets_31 (fun L2 eL2 => ?_)
          refine x_iinc (v := nI (i + 1)) (lv' := [(4, .int (nI (i + 1))), (0, .ref (A 63)), (1, .int (nI o)), (2, .long (lZ v))]) C dX11_sets_32 0 rfl (nI_inc 1) (Nat.lt_of_lt_of_eq (by decide) hN.symm) rfl ?_
          refine x_goto (tgt := 3) C dX11_sets_35 (by decide) ?_
          refine x_sub (lv' := _) [0, 1, 2, 3] rfl ?_
          exact ih3 (i + 1) L2 (by omega) (by omega) (fun q hq => by rw [eL2, up_ne _ _ hq]; exact hK q hq) (wr_g (N := fun j => (if j = 0 then v else 0)) hG (by omega) (by rw [if_pos c23]) eL2)
  refine x_sub (lv' := _) [0, 1, 2, 3] rfl ?_
  exact L3 _ 0 L (Nat.lt_succ_self _) (by omega) (fun _ _ => rfl) (hF.to (g_0 F o _))

set_option maxHeartbeats 4000000 in
set_option maxRecDepth 100000 in
theorem ok_exch0 {l : Launch} {a0 : Nat} {D : va_G} {sa : Nat → Nat} {T : Nat → Option hKd} {I : Nat → Nat → Int32} {L : Nat → Nat → Int64} {R : Nat → Nat → Option Nat} {A : Nat → Nat} (mO : isM T R A a0) (a b : Nat) : hM l a0 D sa yX11_exchange cX11_exchange 7 none { frames := 0, cells := 0, slots := 0, locals := 0 } [.ref (A 63), .int (nI a), .int (nI b), .int (nI 0)] (T, I, L, R, A) (fun r G' => r = none ∧ G' = (T, I, L, R, A)) := by
  refine hM.of (by decide +kernel) (Nat.le_of_ble_eq_true rfl) ?_
  intro z hl h0 hD hS hN C E
  subst hl; subst h0; subst hD; subst hS
  have C : hC z RX11 cX11_exchange := C
  have hZ := E.2.2.2.1
  show hX z 0 0 (T, I, L, R, A) [(0, .ref (A 63)), (1, .int (nI a)), (2, .int (nI b)), (3, .int (nI 0))] 0 []
  refine x_iconst (v := nI 0) C dX11_exchange_0 (by decide +kernel) ?_
  refine x_istore (lv' := [(4, .int (nI 0)), (0, .ref (A 63)), (1, .int (nI a)), (2, .int (nI b)), (3, .int (nI 0))]) C dX11_exchange_1 (Nat.lt_of_lt_of_eq (by decide) hN.symm) rfl ?_
  refine x_iload C dX11_exchange_3 0 rfl ?_
  refine x_bipush (v := nI 16) C dX11_exchange_5 (by decide +kernel) ?_
  refine x_icmp_geN (tgt := 72) C (by omega) (by omega) dX11_exchange_7 (by decide) (fun c7 => absurd c7 (by omega)) (fun c7 => ?_)
  refine x_iload_n C dX11_exchange_10 4 rfl rfl ?_
  refine x_if_eqN (tgt := 72) C (by omega) dX11_exchange_11 (by decide) (fun c11 => ?_) (fun c11 => absurd c11 (by omega))
  exact x_vret C E (Nat.le_of_ble_eq_true rfl) (Nat.le_of_ble_eq_true rfl) dX11_exchange_72 (⟨rfl, rfl⟩)

theorem exch_r {K : Nat → Nat → Int64} {F : Nat → Nat → Int} {a b i : Nat} (h : gB K (va_up (va_up F a (fun j => if j < i then F b j else F a j)) b (fun j => if j < i then F a j else F b j))) (hab : a ≠ b) (ha : a < 10) (hb : b < 10) (hi : i < 16) : K 10 (16 * a + i) = lZ (F a i) ∧ K 10 (16 * b + i) = lZ (F b i) := by
  refine ⟨?_, ?_⟩
  · rw [h a ha i hi, up_ne _ _ hab, up_eq, if_neg (by omega)]
  · rw [h b hb i hi, up_eq, if_neg (by omega)]
theorem exch_w {K L1 L2 : Nat → Nat → Int64} {F : Nat → Nat → Int} {a b i : Nat} (h : gB K (va_up (va_up F a (fun j => if j < i then F b j else F a j)) b (fun j => if j < i then F a j else F b j))) (hab : a ≠ b) (hi : i < 16) (e1 : L1 = va_up K 10 (vp_updL (K 10) (16 * a + i) (lZ (F b i)))) (e2 : L2 = va_up L1 10 (vp_updL (L1 10) (16 * b + i) (lZ (F a i)))) : gB L2 (va_up (va_up F a (fun j => if j < (i + 1) then F b j else F a j)) b (fun j => if j < (i + 1) then F a j else F b j)) := by
  refine ((h.w hi e1).w hi e2).to ?_
  funext p
  by_cases c : p = b
  · subst c
    simp only [up_eq, up_ne _ _ (Ne.symm hab)]
    exact fill_s (F a) (F p) rfl
  · rw [up_ne _ _ c, up_ne _ _ c]
    by_cases c2 : p = a
    · subst c2
      simp only [up_eq, up_ne _ _ hab]
      exact fill_s (F b) (F p) rfl
    · rw [up_ne _ _ c2, up_ne _ _ c, up_ne _ _ c2, up_ne _ _ c2]
set_option maxHeartbeats 4000000 in
set_option maxRecDepth 100000 in
theorem ok_exch1 {l : Launch} {a0 : Nat} {D : va_G} {sa : Nat → Nat} {T : Nat → Option hKd} {I : Nat → Nat → Int32} {L : Nat → Nat → Int64} {R : Nat → Nat → Option Nat} {A : Nat → Nat} (mO : isM T R A a0) (a b : Nat) (ha : a < 10) (hb : b < 10) (hab : a ≠ b) (F : Nat → Nat → Int) (hF : gB L F) : hM l a0 D sa yX11_exchange cX11_exchange 7 none { frames := 0, cells := 0, slots := 0, locals := 0 } [.ref (A 63), .int (nI a), .int (nI b), .int (nI 1)] (T, I, L, R, A) (fun r G' => r = none ∧ ∃ L', G' = (T, I, L', R, A) ∧ gB L' (va_up (va_up F a (fun j => if j < 16 then F b j else F a j)) b (fun j => if j < 16 then F a j else F b j)) ∧ ∀ q, q ≠ 10 → L' q = L q) := by
  refine hM.of (by decide +kernel) (Nat.le_of_ble_eq_true rfl) ?_
  intro z hl h0 hD hS hN C E
  subst hl; subst h0; subst hD; subst hS
  have C : hC z RX11 cX11_exchange := C
  have hZ := E.2.2.2.1
  show hX z 0 0 (T, I, L, R, A) [(0, .ref (A 63)), (1, .int (nI a)), (2, .int (nI b)), (3, .int (nI 1))] 0 []
  refine x_iconst (v := nI 0) C dX11_exchange_0 (by decide +kernel) ?_
  refine x_istore (lv' := [(4, .int (nI 0)), (0, .ref (A 63)), (1, .int (nI a)), (2, .int (nI b)), (3, .int (nI 1))]) C dX11_exchange_1 (Nat.lt_of_lt_of_eq (by decide) hN.symm) rfl ?_
  have L3 : ∀ (fuel_ : Nat) (i : Nat) (K : Nat → Nat → Int64), 16 - i < fuel_ → (i ≤ 16) → (∀ q, q ≠ 10 → K q = L q) → (gB K (va_up (va_up F a (fun j => if j < i then F b j else F a j)) b (fun j => if j < i then F a j else F b j))) → hX z 0 0 (T, I, K, R, A) [(4, .int (nI i)), (0, .ref (A 63)), (1, .int (nI a)), (2, .int (nI b)), (3, .int (nI 1))] 3 [] := by
    intro fuel_
    induction fuel_ with
    | zero => intro i K hmz; exact absurd hmz (Nat.not_lt_zero _)
    | succ fuel_ ih3 =>
      intro i K hmz hi hK hG
      refine x_iload C dX11_exchange_3 0 rfl ?_
      refine x_bipush (v := nI 16) C dX11_exchange_5 (by decide +kernel) ?_
      refine x_icmp_geN (tgt := 72) C (by omega) (by omega) dX11_exchange_7 (by decide) (fun c7 => ?_) (fun c7 => ?_)
      · exact x_vret C E (Nat.le_of_ble_eq_true rfl) (Nat.le_of_ble_eq_true rfl) dX11_exchange_72 (⟨rfl, K, rfl, by rw [show i = 16 by omega] at hG; exact hG, hK⟩)
      · refine x_iload_n C dX11_exchange_10 4 rfl rfl ?_
        refine x_if_eqN (tgt := 72) C (by omega) dX11_exchange_11 (by decide) (fun c11 => absurd c11 (by omega)) (fun c11 => ?_)
        refine x_aload_n C dX11_exchange_14 1 rfl rfl ?_
        refine x_getrN C fl_X11_109 mO.1 rfl (mO.2.2 10 _ rfl).1 dX11_exchange_15 ?_
        refine x_bipush (v := nI 16) C dX11_exchange_18 (by decide +kernel) ?_
        refine x_iload_n C dX11_exchange_20 2 rfl rfl ?_
        refine x_imulN C dX11_exchange_21 ?_
        refine x_iload C dX11_exchange_22 0 rfl ?_
        refine x_iaddN C dX11_exchange_24 ?_
        refine x_laldN C (mO.2.2 10 _ rfl).2.1 (by omega) (by omega) dX11_exchange_25 ?_
        refine x_eql (y := lZ (F a i)) (exch_r hG hab ha hb (by omega)).1 ?_
        refine x_lstore (lv' := [(5, .long (lZ (F a i))), (4, .int (nI i)), (0, .ref (A 63)), (1, .int (nI a)), (2, .int (nI b)), (3, .int (nI 1))]) C dX11_exchange_26 (Nat.lt_of_lt_of_eq (by decide) hN.symm) rfl ?_
        refine x_aload_n C dX11_exchange_28 2 rfl rfl ?_
        refine x_getrN C fl_X11_109 mO.1 rfl (mO.2.2 10 _ rfl).1 dX11_exchange_29 ?_
        refine x_bipush (v := nI 16) C dX11_exchange_32 (by decide +kernel) ?_
        refine x_iload_n C dX11_exchange_34 3 rfl rfl ?_
        refine x_imulN C dX11_exchange_35 ?_
        refine x_iload C dX11_exchange_36 1 rfl ?_
        refine x_iaddN C dX11_exchange_38 ?_
        refine x_aload_n C dX11_exchange_39 2 rfl rfl ?_
        refine x_getrN C fl_X11_109 mO.1 rfl (mO.2.2 10 _ rfl).1 dX11_exchange_40 ?_
        refine x_bipush (v := nI 16) C dX11_exchange_43 (by decide +kernel) ?_
        refine x_iload_n C dX11_exchange_45 4 rfl rfl ?_
        refine x_imulN C dX11_exchange_46 ?_
        refine x_iload C dX11_exchange_47 1 rfl ?_
        refine x_iaddN C dX11_exchange_49 ?_
        refine x_laldN C (mO.2.2 10 _ rfl).2.1 (by omega) (by omega) dX11_exchange_50 ?_
        refine x_eql (y := lZ (F b i)) (exch_r hG hab ha hb (by omega)).2 ?_
        refine x_lastN C (mO.2.2 10 _ rfl).2.1 (mO.2.2 10 _ rfl).2.2 (by omega) (by omega) dX11_exchange_51 (fun L1 eL1 => ?_)
        refine x_aload_n C dX11_exchange_52 2 rfl rfl ?_
        refine x_getrN C fl_X11_109 mO.1 rfl (mO.2.2 10 _ rfl).1 dX11_exchange_53 ?_
        refine x_bipush (v := nI 16) C dX11_exchange_56 (by decide +kernel) ?_
        refine x_iload_n C dX11_exchange_58 4 rfl rfl ?_
        refine x_imulN C dX11_exchange_59 ?_
        refine x_iload C dX11_exchange_60 1 rfl ?_
        refine x_iaddN C dX11_exchange_62 ?_
        refine x_lload C dX11_exchange_63 0 rfl ?_
        refine x_lastN C (mO.2.2 10 _ rfl).2.1 (mO.2.2 10 _ rfl).2.2 (by omega) (by omega) dX11_exchange_65 (fun L2 eL2 => ?_)
        refine x_iinc (v := nI (i + 1)) (lv' := [(4, .int (nI (i + 1))), (5, .long (lZ (F a i))), (0, .ref (A 63)), (1, .int (nI a)), (2, .int (nI b)), (3, .int (nI 1))]) C dX11_exchange_66 1 rfl (nI_inc 1) (Nat.lt_of_lt_of_eq (by decide) hN.symm) rfl ?_
        refine x_goto (tgt := 3) C dX11_exchange_69 (by decide) ?_
        refine x_sub (lv' := _) [0, 2, 3, 4, 5] rfl ?_
        exact ih3 (i + 1) L2 (by omega) (by omega) (fun q hq => by rw [eL2, up_ne _ _ hq, eL1, up_ne _ _ hq]; exact hK q hq) (exch_w hG hab (by omega) eL1 eL2)
  refine x_sub (lv' := _) [0, 1, 2, 3, 4] rfl ?_
  exact L3 _ 0 L (Nat.lt_succ_self _) (by omega) (fun _ _ => rfl) (hF.to (by have e1 := fill_0 (va_up F a (fun j => if j < 0 then F b j else F a j)) b (F a); rw [up_ne _ _ (Ne.symm hab)] at e1; exact (fill_0 F a (F b)).trans e1))

theorem car_s {K L1 L2 L3 : Nat → Nat → Int64} {F : Nat → Nat → Int} {o i : Nat} (ho : o < 10) (h : gB K (va_up F o (mCi (F o) i))) (hi : i < 15) (e1 : L1 = va_up K 10 (vp_updL (K 10) (16 * o + i) (lZ (F o i + mOv (F o) i + 65536)))) (e2 : L2 = va_up L1 10 (vp_updL (L1 10) (16 * o + (i + 1)) (lZ (F o (i + 1) + ((F o i + mOv (F o) i + 65536) / 65536 - 1))))) (e3 : L3 = va_up L2 10 (vp_updL (L2 10) (16 * o + i) (lZ (F o i + mOv (F o) i + 65536 - (F o i + mOv (F o) i + 65536) / 65536 * 65536)))) : gB L3 (va_up F o (mCi (F o) (i + 1))) := by
  refine (((h.w (by omega) e1).w (by omega) e2).w (by omega) e3).to ?_
  simp only [up_eq, up_up]
  refine congrArg (va_up F o) (funext fun j => ?_)
  unfold va_up mCi
  by_cases c : j = i
  · rw [if_pos c, if_pos (by omega), if_neg (by omega), c]; unfold mG; omega
  · rw [if_neg c]
    by_cases c2 : j = i + 1
    · rw [if_pos c2, if_neg (by omega), if_pos ⟨c2, by omega⟩, c2]; simp only [mOv]; omega
    · rw [if_neg c2, if_neg c]
      by_cases c3 : j < i
      · rw [if_pos c3, if_neg (by omega), if_pos (by omega), if_neg (by omega)]
      · rw [if_neg c3, if_neg (by omega), if_neg (by omega), if_neg (by omega)]
theorem car_e {K L1 L2 L3 : Nat → Nat → Int64} {F : Nat → Nat → Int} {o : Nat} (ho : o < 10) (h : gB K (va_up F o (mCi (F o) 15))) (e1 : L1 = va_up K 10 (vp_updL (K 10) (16 * o + 15) (lZ (F o 15 + mOv (F o) 15 + 65536)))) (e2 : L2 = va_up L1 10 (vp_updL (L1 10) (16 * o + 0) (lZ (mG (F o) 0 + 38 * ((F o 15 + mOv (F o) 15 + 65536) / 65536 - 1))))) (e3 : L3 = va_up L2 10 (vp_updL (L2 10) (16 * o + 15) (lZ (F o 15 + mOv (F o) 15 + 65536 - (F o 15 + mOv (F o) 15 + 65536) / 65536 * 65536)))) : gB L3 (va_up F o (mCi (F o) 16)) := by
  refine (((h.w (by omega) e1).w (by omega) e2).w (by omega) e3).to ?_
  simp only [up_eq, up_up]
  refine congrArg (va_up F o) (funext fun j => ?_)
  unfold va_up mCi
  have e16 : mOv (F o) 16 = (F o 15 + mOv (F o) 15) / 65536 := rfl
  by_cases c : j = 15
  · rw [if_pos c, if_pos (by omega), if_neg (by omega), c]; unfold mG; omega
  · rw [if_neg c]
    by_cases c2 : j = 0
    · rw [if_pos c2, if_pos (by omega), if_pos ⟨rfl, c2⟩, e16]; omega
    · rw [if_neg c2, if_neg c]
      by_cases c3 : j < 15
      · rw [if_pos c3, if_neg (by omega), if_pos (by omega), if_neg (by omega)]
      · rw [if_neg c3, if_neg (by omega), if_neg (by omega), if_neg (by omega)]
theorem mCi_0 (F : Nat → Nat → Int) (o : Nat) : F = va_up F o (mCi (F o) 0) := by
  conv => lhs; rw [← up_self F o]
  congr 1; funext j; unfold mCi; rw [if_neg (by omega)]
  by_cases c : j = 0 ∧ j < 16
  · rw [if_pos c, c.1]; simp [mOv]
  · rw [if_neg c]
theorem car_e2 {K L1 L2 L3 : Nat → Nat → Int64} {F : Nat → Nat → Int} {o i : Nat} (hi : i = 15) (ho : o < 10) (h : gB K (va_up F o (mCi (F o) i))) (e1 : L1 = va_up K 10 (vp_updL (K 10) (16 * o + i) (lZ (F o i + mOv (F o) i + 65536)))) (e2 : L2 = va_up L1 10 (vp_updL (L1 10) (16 * o) (lZ (mG (F o) 0 + 38 * ((F o i + mOv (F o) i + 65536) / 65536 - 1))))) (e3 : L3 = va_up L2 10 (vp_updL (L2 10) (16 * o + i) (lZ (F o i + mOv (F o) i + 65536 - (F o i + mOv (F o) i + 65536) / 65536 * 65536)))) : gB L3 (va_up F o (mCi (F o) (i + 1))) := by
  subst hi
  exact car_e ho h e1 e2 e3
set_option maxHeartbeats 4000000 in
set_option maxRecDepth 100000 in
theorem ok_X11_carry {l : Launch} {a0 : Nat} {D : va_G} {sa : Nat → Nat} {T : Nat → Option hKd} {I : Nat → Nat → Int32} {L : Nat → Nat → Int64} {R : Nat → Nat → Option Nat} {A : Nat → Nat} (mO : isM T R A a0) (o : Nat) (ho : o < 10) (F : Nat → Nat → Int) (hF : gB L F) (hB : ∀ i, i < 16 → -2 ^ 60 ≤ F o i ∧ F o i ≤ 2 ^ 60) : hM l a0 D sa yX11_carry cX11_carry 5 none { frames := 0, cells := 0, slots := 0, locals := 0 } [.ref (A 63), .int (nI o)] (T, I, L, R, A) (fun r G' => r = none ∧ ∃ L', G' = (T, I, L', R, A) ∧ gB L' (va_up F o (mCi (F o) 16)) ∧ ∀ q, q ≠ 10 → L' q = L q) := by
  refine hM.of (by decide +kernel) (Nat.le_of_ble_eq_true rfl) ?_
  intro z hl h0 hD hS hN C E
  subst hl; subst h0; subst hD; subst hS
  have C : hC z RX11 cX11_carry := C
  have hZ := E.2.2.2.1
  show hX z 0 0 (T, I, L, R, A) [(0, .ref (A 63)), (1, .int (nI o))] 0 []
  refine x_iconst (v := nI 0) C dX11_carry_0 (by decide +kernel) ?_
  refine x_istore_n (lv' := [(2, .int (nI 0)), (0, .ref (A 63)), (1, .int (nI o))]) C dX11_carry_1 rfl (Nat.lt_of_lt_of_eq (by decide) hN.symm) rfl ?_
  have L2 : ∀ (fuel_ : Nat) (i : Nat) (K : Nat → Nat → Int64), 16 - i < fuel_ → (i ≤ 16) → (∀ q, q ≠ 10 → K q = L q) → (gB K (va_up F o (mCi (F o) i))) → hX z 0 0 (T, I, K, R, A) [(2, .int (nI i)), (0, .ref (A 63)), (1, .int (nI o))] 2 [] := by
    intro fuel_
    induction fuel_ with
    | zero => intro i K hmz; exact absurd hmz (Nat.not_lt_zero _)
    | succ fuel_ ih2 =>
      intro i K hmz hi hK hG
      refine x_iload_n C dX11_carry_2 0 rfl rfl ?_
      refine x_bipush (v := nI 16) C dX11_carry_3 (by decide +kernel) ?_
      refine x_icmp_geN (tgt := 111) C (by omega) (by omega) dX11_carry_5 (by decide) (fun c5 => ?_) (fun c5 => ?_)
      · exact x_vret C E (Nat.le_of_ble_eq_true rfl) (Nat.le_of_ble_eq_true rfl) dX11_carry_111 (⟨rfl, K, rfl, by rw [show i = 16 by omega] at hG; exact hG, hK⟩)
      · refine x_aload_n C dX11_carry_8 1 rfl rfl ?_
        refine x_getrN C fl_X11_109 mO.1 rfl (mO.2.2 10 _ rfl).1 dX11_carry_9 ?_
        refine x_bipush (v := nI 16) C dX11_carry_12 (by decide +kernel) ?_
        refine x_iload_n C dX11_carry_14 2 rfl rfl ?_
        refine x_imulN C dX11_carry_15 ?_
        refine x_iload_n C dX11_carry_16 0 rfl rfl ?_
        refine x_iaddN C dX11_carry_17 ?_
        refine x_dup2 C dX11_carry_18 rfl rfl ?_
        refine x_laldN C (mO.2.2 10 _ rfl).2.1 (by omega) (by omega) dX11_carry_19 ?_
        refine x_eql (y := lZ (F o i + mOv (F o) i)) (by rw [hG o ho i (by omega), up_eq]; unfold mCi; rw [if_neg (by omega), if_pos ⟨rfl, by omega⟩]) ?_
        refine x_ldc2 C dX11_carry_20 kc_X11_286 ?_
        refine x_eql (y := lZ 65536) (lZ_lit 65536) ?_
        refine x_laddZ C dX11_carry_23 ?_
        refine x_lastN C (mO.2.2 10 _ rfl).2.1 (mO.2.2 10 _ rfl).2.2 (by omega) (by omega) dX11_carry_24 (fun L1 eL1 => ?_)
        refine x_aload_n C dX11_carry_25 1 rfl rfl ?_
        refine x_getrN C fl_X11_109 mO.1 rfl (mO.2.2 10 _ rfl).1 dX11_carry_26 ?_
        refine x_bipush (v := nI 16) C dX11_carry_29 (by decide +kernel) ?_
        refine x_iload_n C dX11_carry_31 2 rfl rfl ?_
        refine x_imulN C dX11_carry_32 ?_
        refine x_iload_n C dX11_carry_33 0 rfl rfl ?_
        refine x_iaddN C dX11_carry_34 ?_
        refine x_laldN C (mO.2.2 10 _ rfl).2.1 (by omega) (by omega) dX11_carry_35 ?_
        refine x_eql (y := lZ (F o i + mOv (F o) i + 65536)) (by rw [eL1, up_Ls]) ?_
        refine x_bipush (v := nI 16) C dX11_carry_36 (by decide +kernel) ?_
        refine x_lshr C dX11_carry_38 ?_
        refine x_eql (y := lZ ((F o i + mOv (F o) i + 65536) / 65536)) (lZ_shr (by have := hB i (by omega); have := mOv_b hB i (by omega); omega) (by have := hB i (by omega); have := mOv_b hB i (by omega); omega) (by decide)) ?_
        refine x_lstore_n (lv' := [(3, .long (lZ ((F o i + mOv (F o) i + 65536) / 65536))), (2, .int (nI i)), (0, .ref (A 63)), (1, .int (nI o))]) C dX11_carry_39 rfl (Nat.lt_of_lt_of_eq (by decide) hN.symm) rfl ?_
        refine x_iload_n C dX11_carry_40 1 rfl rfl ?_
        refine x_bipush (v := nI 15) C dX11_carry_41 (by decide +kernel) ?_
        refine x_icmp_geN (tgt := 68) C (by omega) (by omega) dX11_carry_43 (by decide) (fun c43 => ?_) (fun c43 => ?_)
        · refine x_aload_n C dX11_carry_68 2 rfl rfl ?_
          refine x_getrN C fl_X11_109 mO.1 rfl (mO.2.2 10 _ rfl).1 dX11_carry_69 ?_
          refine x_bipush (v := nI 16) C dX11_carry_72 (by decide +kernel) ?_
          refine x_iload_n C dX11_carry_74 3 rfl rfl ?_
          refine x_imulN C dX11_carry_75 ?_
          refine x_dup2 C dX11_carry_76 rfl rfl ?_
          refine x_laldN C (mO.2.2 10 _ rfl).2.1 (by omega) (by omega) dX11_carry_77 ?_
          refine x_eql (y := lZ (mG (F o) 0)) (by rw [eL1, up_Ln (by omega)]; show K 10 (16 * o + 0) = _; rw [hG o ho 0 (by omega), up_eq]; unfold mCi; rw [if_pos (by omega), if_neg (by omega)]) ?_
          refine x_ldc2 C dX11_carry_78 kc_X11_288 ?_
          refine x_eql (y := lZ 38) (lZ_lit 38) ?_
          refine x_lload_n C dX11_carry_81 0 rfl rfl ?_
          refine x_lconst (v := lZ 1) C dX11_carry_82 (by decide +kernel) ?_
          refine x_lsubZ C dX11_carry_83 ?_
          refine x_lmulZ C dX11_carry_84 ?_
          refine x_laddZ C dX11_carry_85 ?_
          refine x_lastN C (mO.2.2 10 _ rfl).2.1 (mO.2.2 10 _ rfl).2.2 (by omega) (by omega) dX11_carry_86 (fun L2 eL2 => ?_)
          refine x_aload_n C dX11_carry_87 2 rfl rfl ?_
          refine x_getrN C fl_X11_109 mO.1 rfl (mO.2.2 10 _ rfl).1 dX11_carry_88 ?_
          refine x_bipush (v := nI 16) C dX11_carry_91 (by decide +kernel) ?_
          refine x_iload_n C dX11_carry_93 3 rfl rfl ?_
          refine x_imulN C dX11_carry_94 ?_
          refine x_iload_n C dX11_carry_95 1 rfl rfl ?_
          refine x_iaddN C dX11_carry_96 ?_
          refine x_dup2 C dX11_carry_97 rfl rfl ?_
          refine x_laldN C (mO.2.2 10 _ rfl).2.1 (by omega) (by omega) dX11_carry_98 ?_
          refine x_eql (y := lZ (F o i + mOv (F o) i + 65536)) (by rw [eL2, up_Ln (by omega), eL1, up_Ls]) ?_
          refine x_lload_n C dX11_carry_99 0 rfl rfl ?_
          refine x_bipush (v := nI 16) C dX11_carry_100 (by decide +kernel) ?_
          refine x_lshl C dX11_carry_102 ?_
          refine x_eql (y := lZ ((F o i + mOv (F o) i + 65536) / 65536 * 65536)) (lZ_shl _ (by decide)) ?_
          refine x_lsubZ C dX11_carry_103 ?_
          refine x_lastN C (mO.2.2 10 _ rfl).2.1 (mO.2.2 10 _ rfl).2.2 (by omega) (by omega) dX11_carry_104 (fun L3 eL3 => ?_)
          refine x_iinc (v := nI (i + 1)) (lv' := [(2, .int (nI (i + 1))), (3, .long (lZ ((F o i + mOv (F o) i + 65536) / 65536))), (0, .ref (A 63)), (1, .int (nI o))]) C dX11_carry_105 1 rfl (nI_inc 1) (Nat.lt_of_lt_of_eq (by decide) hN.symm) rfl ?_
          refine x_goto (tgt := 2) C dX11_carry_108 (by decide) ?_
          refine x_sub (lv' := _) [0, 2, 3] rfl ?_
          exact ih2 (i + 1) L3 (by omega) (by omega) (fun q hq => by rw [eL3, up_ne _ _ hq, eL2, up_ne _ _ hq, eL1, up_ne _ _ hq]; exact hK q hq) (by first | exact car_s ho hG (by omega) eL1 eL2 eL3 | exact car_e2 (show i = 15 by omega) ho hG eL1 eL2 eL3)
        · refine x_aload_n C dX11_carry_46 2 rfl rfl ?_
          refine x_getrN C fl_X11_109 mO.1 rfl (mO.2.2 10 _ rfl).1 dX11_carry_47 ?_
          refine x_bipush (v := nI 16) C dX11_carry_50 (by decide +kernel) ?_
          refine x_iload_n C dX11_carry_52 3 rfl rfl ?_
          refine x_imulN C dX11_carry_53 ?_
          refine x_iload_n C dX11_carry_54 1 rfl rfl ?_
          refine x_iaddN C dX11_carry_55 ?_
          refine x_iconst (v := nI 1) C dX11_carry_56 (by decide +kernel) ?_
          refine x_iaddN C dX11_carry_57 ?_
          refine x_dup2 C dX11_carry_58 rfl rfl ?_
          refine x_laldN C (mO.2.2 10 _ rfl).2.1 (by omega) (by omega) dX11_carry_59 ?_
          refine x_eql (y := lZ (F o (i + 1))) (by rw [eL1, up_Ln (by omega)]; show K 10 (16 * o + (i + 1)) = _; rw [hG o ho (i + 1) (by omega), up_eq]; unfold mCi; rw [if_neg (by omega), if_neg (by omega)]) ?_
          refine x_lload_n C dX11_carry_60 0 rfl rfl ?_
          refine x_lconst (v := lZ 1) C dX11_carry_61 (by decide +kernel) ?_
          refine x_lsubZ C dX11_carry_62 ?_
          refine x_laddZ C dX11_carry_63 ?_
          refine x_lastN C (mO.2.2 10 _ rfl).2.1 (mO.2.2 10 _ rfl).2.2 (by omega) (by omega) dX11_carry_64 (fun L4 eL4 => ?_)
          refine x_goto (tgt := 87) C dX11_carry_65 (by decide) ?_
          refine x_aload_n C dX11_carry_87 2 rfl rfl ?_
          refine x_getrN C fl_X11_109 mO.1 rfl (mO.2.2 10 _ rfl).1 dX11_carry_88 ?_
          refine x_bipush (v := nI 16) C dX11_carry_91 (by decide +kernel) ?_
          refine x_iload_n C dX11_carry_93 3 rfl rfl ?_
          refine x_imulN C dX11_carry_94 ?_
          refine x_iload_n C dX11_carry_95 1 rfl rfl ?_
          refine x_iaddN C dX11_carry_96 ?_
          refine x_dup2 C dX11_carry_97 rfl rfl ?_
          refine x_laldN C (mO.2.2 10 _ rfl).2.1 (by omega) (by omega) dX11_carry_98 ?_
          refine x_eql (y := lZ (F o i + mOv (F o) i + 65536)) (by rw [eL4, up_Ln (by omega), eL1, up_Ls]) ?_
          refine x_lload_n C dX11_carry_99 0 rfl rfl ?_
          refine x_bipush (v := nI 16) C dX11_carry_100 (by decide +kernel) ?_
          refine x_lshl C dX11_carry_102 ?_
          refine x_eql (y := lZ ((F o i + mOv (F o) i + 65536) / 65536 * 65536)) (lZ_shl _ (by decide)) ?_
          refine x_lsubZ C dX11_carry_103 ?_
          refine x_lastN C (mO.2.2 10 _ rfl).2.1 (mO.2.2 10 _ rfl).2.2 (by omega) (by omega) dX11_carry_104 (fun L5 eL5 => ?_)
          refine x_iinc (v := nI (i + 1)) (lv' := [(2, .int (nI (i + 1))), (3, .long (lZ ((F o i + mOv (F o) i + 65536) / 65536))), (0, .ref (A 63)), (1, .int (nI o))]) C dX11_carry_105 1 rfl (nI_inc 1) (Nat.lt_of_lt_of_eq (by decide) hN.symm) rfl ?_
          refine x_goto (tgt := 2) C dX11_carry_108 (by decide) ?_
          refine x_sub (lv' := _) [0, 2, 3] rfl ?_
          exact ih2 (i + 1) L5 (by omega) (by omega) (fun q hq => by rw [eL5, up_ne _ _ hq, eL4, up_ne _ _ hq, eL1, up_ne _ _ hq]; exact hK q hq) (by first | exact car_s ho hG (by omega) eL1 eL4 eL5 | exact car_e2 (show i = 15 by omega) ho hG eL1 eL4 eL5)
  refine x_sub (lv' := _) [0, 1, 2] rfl ?_
  exact L2 _ 0 L (Nat.lt_succ_self _) (by omega) (fun _ _ => rfl) (hF.to (mCi_0 F o))

