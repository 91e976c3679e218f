theorem isX.ref {T : Nat → Option hKd} {R R' : Nat → Nat → Option Nat} {A : Nat → Nat} {a0 : Nat} (h : isX T R A a0) (h1 : ∀ q, q ≠ 121 → R' q = R q) (h2 : ∀ k, k < 2 ∨ 5 < k → R' 121 k = R 121 k) : isX T R' A a0 := by
  refine ⟨h.1, fun q k r hr => ?_, h.2.2⟩
  by_cases e : q = 121
  · subst e
    rw [h2 k (by
      rcases (show k < 2 ∨ 5 < k ∨ k = 2 ∨ k = 3 ∨ k = 4 ∨ k = 5 by omega) with c | c | rfl | rfl | rfl | rfl
      · exact Or.inl c
      · exact Or.inr c
      · rw [show xRf 121 2 = none by decide +kernel] at hr; cases hr
      · rw [show xRf 121 3 = none by decide +kernel] at hr; cases hr
      · rw [show xRf 121 4 = none by decide +kernel] at hr; cases hr
      · rw [show xRf 121 5 = none by decide +kernel] at hr; cases hr)]
    exact h.2.1 _ _ _ hr
  · rw [h1 q e]; exact h.2.1 _ _ _ hr
theorem m1_lt : ∀ m, m < 256 → (nI m - 1 < 0 ↔ m = 0) := by decide +kernel
theorem m1_eq {m : Nat} (h : 0 < m) : nI m - 1 = nI (m - 1) := by
  obtain ⟨k, rfl⟩ : ∃ k, m = k + 1 := ⟨m - 1, by omega⟩
  rw [nI_pred]; rfl
theorem m1_dec (k : Nat) : nI k + (-1) = nI k - 1 := by rw [Int32.sub_eq_add_neg]
/-- f to the power 2^255 - 21, as it is come to -/
def fPw (F : Nat → Int) : Nat → Nat → Int
  | 0 => F
  | n + 1 => if n = 251 ∨ n = 249 then fMul (fPw F n) (fPw F n) else fMul (fMul (fPw F n) (fPw F n)) F
theorem fPw_b {F : Nat → Int} (h : cvB F) : ∀ n, cvB (fPw F n)
  | 0 => h
  | n + 1 => by
    have ih := fPw_b h n
    simp only [fPw]
    split
    · exact ih.w.mul ih.w
    · exact (ih.w.mul ih.w).w.mul h.w
set_option maxHeartbeats 4000000 in
set_option maxRecDepth 100000 in
theorem ok_X1_swap {l : Launch} {a0 : Nat} {D : va_G} {sa : Nat → Nat} {T : Nat → Option hKd} {I : Nat → Nat → Int32} {L : Nat → Nat → Int64} {R : Nat → Nat → Option Nat} {A : Nat → Nat} (xO : isX T R A a0) (hsa : ∀ k, k < 5 → sa k = A (90 + k)) (p q r s : Nat) (hRp : R 121 2 = some p) (hRq : R 121 3 = some q) (hRr : R 121 4 = some r) (hRs : R 121 5 = some s) (hp : 124 ≤ p ∧ p ≤ 127) (hq : 124 ≤ q ∧ q ≤ 127) (hr : 124 ≤ r ∧ r ≤ 127) (hs : 124 ≤ s ∧ s ≤ 127) (hpq : p ≠ q) (hpr : p ≠ r) (hps : p ≠ s) (hqr : q ≠ r) (hqs : q ≠ s) (hrs : r ≠ s)  : hM l a0 D sa yX1_swap cX1_swap 3 none { frames := 0, cells := 0, slots := 0, locals := 0 } [.ref (A 121)] (T, I, L, R, A) (fun v G' => v = none ∧ ∃ R', G' = (T, I, L, R', A) ∧ R' 121 2 = some r ∧ R' 121 3 = some s ∧ R' 121 4 = some p ∧ R' 121 5 = some q ∧ (∀ q', q' ≠ 121 → R' q' = R q') ∧ ∀ k, k < 2 ∨ 5 < k → R' 121 k = R 121 k) := by
  refine hM.of (by decide +kernel) (Nat.le_of_ble_eq_true rfl) ?_
  intro z hl h0 hD hS hN C E
  subst hl; subst h0; subst hD; subst hS
  have C : hC z RX1 cX1_swap := C
  have hZ := E.2.2.2.1
  show hX z 0 0 (T, I, L, R, A) [(0, .ref (A 121))] 0 []
  refine x_aload_n C dX1_swap_0 0 rfl rfl ?_
  refine x_getrN C fl_X1_19 (xO.1 121 _ rfl).1 rfl hRp dX1_swap_1 ?_
  refine x_astore_n (lv' := [(1, .ref (A p)), (0, .ref (A 121))]) C dX1_swap_4 rfl (Nat.lt_of_lt_of_eq (by decide) hN.symm) rfl ?_
  refine x_aload_n C dX1_swap_5 1 rfl rfl ?_
  refine x_getrN C fl_X1_22 (xO.1 121 _ rfl).1 rfl hRq dX1_swap_6 ?_
  refine x_astore_n (lv' := [(2, .ref (A q)), (1, .ref (A p)), (0, .ref (A 121))]) C dX1_swap_9 rfl (Nat.lt_of_lt_of_eq (by decide) hN.symm) rfl ?_
  refine x_aload_n C dX1_swap_10 2 rfl rfl ?_
  refine x_aload_n C dX1_swap_11 2 rfl rfl ?_
  refine x_getrN C fl_X1_25 (xO.1 121 _ rfl).1 rfl hRr dX1_swap_12 ?_
  refine x_putrN C fl_X1_19 (xO.1 121 _ rfl).1 (xO.1 121 _ rfl).2 rfl rfl dX1_swap_15 (fun R1 eR1 => ?_)
  refine x_aload_n C dX1_swap_18 2 rfl rfl ?_
  refine x_aload_n C dX1_swap_19 2 rfl rfl ?_
  refine x_getrN C fl_X1_28 (xO.1 121 _ rfl).1 rfl (by rw [eR1, up_eq]; simp [va_up]; exact hRs) dX1_swap_20 ?_
  refine x_putrN C fl_X1_22 (xO.1 121 _ rfl).1 (xO.1 121 _ rfl).2 rfl rfl dX1_swap_23 (fun R2 eR2 => ?_)
  refine x_aload_n C dX1_swap_26 2 rfl rfl ?_
  refine x_aload_n C dX1_swap_27 1 rfl rfl ?_
  refine x_putrN C fl_X1_25 (xO.1 121 _ rfl).1 (xO.1 121 _ rfl).2 rfl rfl dX1_swap_28 (fun R3 eR3 => ?_)
  refine x_aload_n C dX1_swap_31 2 rfl rfl ?_
  refine x_aload_n C dX1_swap_32 0 rfl rfl ?_
  refine x_putrN C fl_X1_28 (xO.1 121 _ rfl).1 (xO.1 121 _ rfl).2 rfl rfl dX1_swap_33 (fun R4 eR4 => ?_)
  exact x_vret C E (Nat.le_of_ble_eq_true rfl) (Nat.le_of_ble_eq_true rfl) dX1_swap_36 (⟨rfl, R4, rfl, by rw [eR4, eR3, eR2, eR1]; simp [va_up], by rw [eR4, eR3, eR2, eR1]; simp [va_up], by rw [eR4, eR3, eR2, eR1]; simp [va_up], by rw [eR4, eR3, eR2, eR1]; simp [va_up], fun q' h => by rw [eR4, eR3, eR2, eR1]; simp [va_up, h], fun k h => by rw [eR4, eR3, eR2, eR1]; simp [va_up, show k ≠ 2 by omega, show k ≠ 3 by omega, show k ≠ 4 by omega, show k ≠ 5 by omega]⟩)

set_option maxHeartbeats 4000000 in
set_option maxRecDepth 100000 in
theorem ok_X1_invert {l : Launch} {a0 : Nat} {D : va_G} {sa : Nat → Nat} {T : Nat → Option hKd} {I : Nat → Nat → Int32} {L : Nat → Nat → Int64} {R : Nat → Nat → Option Nat} {A : Nat → Nat} (f o : Nat) (F : Nat → Int) (hTf : T f = some (.inl (.long, 10))) (hTo : T o = some (.inl (.long, 10))) (ho0 : a0 ≤ A o) (hfo : f ≠ o) (hF : ∀ j, j < 10 → L f j = lZ (F j)) (hB : cvB F) : hM l a0 D sa yX1_invert cX1_invert 3 none { frames := 3, cells := 0, slots := 0, locals := 136 } [.ref (A f), .ref (A o)] (T, I, L, R, A) (fun r G' => r = none ∧ ∃ L', G' = (T, I, L', R, A) ∧ (∀ j, j < 10 → L' o j = lZ (fPw F 254 j)) ∧ ∀ q, q ≠ o → L' q = L q) := by
  refine hM.of (by decide +kernel) (Nat.le_of_ble_eq_true rfl) ?_
  intro z hl h0 hD hS hN C E
  subst hl; subst h0; subst hD; subst hS
  have C : hC z RX1 cX1_invert := C
  have hZ := E.2.2.2.1
  show hX z 0 0 (T, I, L, R, A) [(0, .ref (A f)), (1, .ref (A o))] 0 []
  refine x_aload_n C dX1_invert_0 0 rfl rfl ?_
  refine x_iconst (v := nI 0) C dX1_invert_1 (by decide +kernel) ?_
  refine x_aload_n C dX1_invert_2 1 rfl rfl ?_
  refine x_iconst (v := nI 0) C dX1_invert_3 (by decide +kernel) ?_
  refine x_bipush (v := nI 10) C dX1_invert_4 (by decide +kernel) ?_
  refine x_copyl C hTf hTo ho0 (by omega) (by omega) (by omega) (by omega) ml_X1_55 (hrm (rm := { frames := 0, cells := 0, slots := 0, locals := 0 }) hZ ⟨Nat.le_of_ble_eq_true rfl, by decide +kernel⟩) dX1_invert_6 (fun L1 eL1 => ?_)
  refine x_sipush (v := nI 253) C dX1_invert_9 (by decide +kernel) ?_
  refine x_istore_n (lv' := [(2, .int (nI 253)), (0, .ref (A f)), (1, .ref (A o))]) C dX1_invert_12 rfl (Nat.lt_of_lt_of_eq (by decide) hN.symm) rfl ?_
  have L13 : ∀ (fuel_ : Nat) (m : Nat) (x : Int32) (K : Nat → Nat → Int64), m < fuel_ → (m ≤ 254) → (x = nI m - 1) → (∀ j, j < 10 → K o j = lZ (fPw F (254 - m) j)) → (∀ q, q ≠ o → K q = L q) → hX z 0 0 (T, I, K, R, A) [(2, .int x), (0, .ref (A f)), (1, .ref (A o))] 13 [] := by
    intro fuel_
    induction fuel_ with
    | zero => intro m x K hmz; exact absurd hmz (Nat.not_lt_zero _)
    | succ fuel_ ih13 =>
      intro m x K hmz hm4 hx hO hK
      refine x_iload_n C dX1_invert_13 0 rfl rfl ?_
      refine x_if_lt (tgt := 45) C dX1_invert_14 (by decide) (fun c14 => ?_) (fun c14 => ?_)
      · have hm0 : m = 0 := (m1_lt m (by omega)).mp (by rw [← hx]; exact c14)
        exact x_vret C E (Nat.le_of_ble_eq_true rfl) (Nat.le_of_ble_eq_true rfl) dX1_invert_45 (⟨rfl, K, rfl, by rw [hm0] at hO; exact hO, hK⟩)
      · have hm1 : 0 < m := by
          have : ¬ m = 0 := fun e => c14 (by rw [hx]; exact (m1_lt m (by omega)).mpr e)
          omega
        have hx2 : x = nI (m - 1) := by rw [hx]; exact m1_eq hm1
        refine x_aload_n C dX1_invert_17 2 rfl rfl ?_
        refine x_aload_n C dX1_invert_18 2 rfl rfl ?_
        refine x_aload_n C dX1_invert_19 2 rfl rfl ?_
        refine x_callS C (ok_X1_multiply o o o (fPw F (254 - m)) (fPw F (254 - m)) hTo hTo hTo ho0 hO hO (fPw_b hB _).w (fPw_b hB _).w) ms_X1_multiply ml_X1_71 rfl rfl (Nat.le_of_ble_eq_true rfl) (hrm (rm := { frames := 0, cells := 0, slots := 0, locals := 0 }) hZ ⟨Nat.le_of_ble_eq_true rfl, Nat.le_of_ble_eq_true rfl⟩) (hcs hZ ⟨Nat.le_of_ble_eq_true rfl, Nat.le_of_ble_eq_true rfl⟩) dX1_invert_20 (fun v G' hp => ?_)
        obtain ⟨rfl, K1, rfl, i1, g1⟩ := hp
        have f1 : ∀ j, j < 10 → K1 f j = lZ (F j) := fun j hj => by rw [g1 f hfo, hK f hfo]; exact hF j hj
        show hX z 0 0 (T, I, K1, R, A) [(2, .int x), (0, .ref (A f)), (1, .ref (A o))] 23 []
        refine x_iload_n C dX1_invert_23 0 rfl rfl ?_
        refine x_iconst (v := nI 2) C dX1_invert_24 (by decide +kernel) ?_
        refine x_icmp_eq (tgt := 39) C dX1_invert_25 (by decide) (fun c25 => ?_) (fun c25 => ?_)
        · have b25 : m - 1 = 2 := (nI_eq (by omega) (by decide)).mp (by rw [← hx2]; exact c25)
          refine x_iinc (v := x + (-1)) (lv' := [(2, .int (x + (-1))), (0, .ref (A f)), (1, .ref (A o))]) C dX1_invert_39 0 rfl (by rfl) (Nat.lt_of_lt_of_eq (by decide) hN.symm) rfl ?_
          refine x_goto (tgt := 13) C dX1_invert_42 (by decide) ?_
          refine x_sub (lv' := _) [0, 1, 2] rfl ?_
          exact ih13 (m - 1) (x + (-1)) K1 (by omega) (by omega) (by rw [hx2, m1_dec]) (fun j hj => by rw [show 254 - (m - 1) = (254 - m) + 1 by omega]; simp only [fPw]; rw [if_pos (by omega)]; exact i1 j hj) (fun q hq => by rw [g1 q hq]; exact hK q hq)
        · have b25 : ¬ m - 1 = 2 := fun e => c25 (by rw [hx2, e])
          refine x_iload_n C dX1_invert_28 0 rfl rfl ?_
          refine x_iconst (v := nI 4) C dX1_invert_29 (by decide +kernel) ?_
          refine x_icmp_eq (tgt := 39) C dX1_invert_30 (by decide) (fun c30 => ?_) (fun c30 => ?_)
          · have b30 : m - 1 = 4 := (nI_eq (by omega) (by decide)).mp (by rw [← hx2]; exact c30)
            refine x_iinc (v := x + (-1)) (lv' := [(2, .int (x + (-1))), (0, .ref (A f)), (1, .ref (A o))]) C dX1_invert_39 0 rfl (by rfl) (Nat.lt_of_lt_of_eq (by decide) hN.symm) rfl ?_
            refine x_goto (tgt := 13) C dX1_invert_42 (by decide) ?_
            refine x_sub (lv' := _) [0, 1, 2] rfl ?_
            exact ih13 (m - 1) (x + (-1)) K1 (by omega) (by omega) (by rw [hx2, m1_dec]) (fun j hj => by rw [show 254 - (m - 1) = (254 - m) + 1 by omega]; simp only [fPw]; rw [if_pos (by omega)]; exact i1 j hj) (fun q hq => by rw [g1 q hq]; exact hK q hq)
          · have b30 : ¬ m - 1 = 4 := fun e => c30 (by rw [hx2, e])
            refine x_aload_n C dX1_invert_33 2 rfl rfl ?_
            refine x_aload_n C dX1_invert_34 1 rfl rfl ?_
            refine x_aload_n C dX1_invert_35 2 rfl rfl ?_
            refine x_callS C (ok_X1_multiply o f o (fMul (fPw F (254 - m)) (fPw F (254 - m))) F hTo hTf hTo ho0 i1 f1 ((fPw_b hB _).w.mul (fPw_b hB _).w).w hB.w) ms_X1_multiply ml_X1_71 rfl rfl (Nat.le_of_ble_eq_true rfl) (hrm (rm := { frames := 0, cells := 0, slots := 0, locals := 0 }) hZ ⟨Nat.le_of_ble_eq_true rfl, Nat.le_of_ble_eq_true rfl⟩) (hcs hZ ⟨Nat.le_of_ble_eq_true rfl, Nat.le_of_ble_eq_true rfl⟩) dX1_invert_36 (fun v G' hp => ?_)
            obtain ⟨rfl, K2, rfl, i2, g2⟩ := hp
            show hX z 0 0 (T, I, K2, R, A) [(2, .int x), (0, .ref (A f)), (1, .ref (A o))] 39 []
            refine x_iinc (v := x + (-1)) (lv' := [(2, .int (x + (-1))), (0, .ref (A f)), (1, .ref (A o))]) C dX1_invert_39 0 rfl (by rfl) (Nat.lt_of_lt_of_eq (by decide) hN.symm) rfl ?_
            refine x_goto (tgt := 13) C dX1_invert_42 (by decide) ?_
            refine x_sub (lv' := _) [0, 1, 2] rfl ?_
            exact ih13 (m - 1) (x + (-1)) K2 (by omega) (by omega) (by rw [hx2, m1_dec]) (fun j hj => by rw [show 254 - (m - 1) = (254 - m) + 1 by omega]; simp only [fPw]; rw [if_neg (by omega)]; exact i2 j hj) (fun q hq => by rw [g2 q hq, g1 q hq]; exact hK q hq)
  refine x_sub (lv' := _) [0, 1, 2] rfl ?_
  exact L13 _ 254 (nI 253) L1 (Nat.lt_succ_self _) (by omega) (by decide +kernel) (fun j hj => by rw [eL1, up_eq, if_pos (by omega), Nat.zero_add, Nat.sub_zero]; exact hF j hj) (fun q hq => by rw [eL1, up_ne _ _ hq])

