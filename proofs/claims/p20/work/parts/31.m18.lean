def cvOv (f : Nat → Int) : Nat → Int
  | 0 => 0
  | i + 1 => (f i + cvOv f i) / 2 ^ wd i
def cvG (f : Nat → Int) (i : Nat) : Int := (f i + cvOv f i) % 2 ^ wd i
/-- the limbs behind a carry -/
def cvCar (f : Nat → Int) (i : Nat) : Int := if i = 0 then (cvG f 0 + 19 * cvOv f 10) % 2 ^ wd 0 else if i = 1 then cvG f 1 + (cvG f 0 + 19 * cvOv f 10) / 2 ^ wd 0 else cvG f i
theorem wd_or (i : Nat) : (wd i = 26 ∧ i % 2 = 0) ∨ (wd i = 25 ∧ i % 2 = 1) := by unfold wd; omega
theorem wd_lt (i : Nat) : wd i < 63 := by rcases wd_or i with h | h <;> omega
theorem cvOv_b {f : Nat → Int} {n : Nat} (h : ∀ i, i < n → -2 ^ 62 ≤ f i ∧ f i ≤ 2 ^ 62) : ∀ i, i ≤ n → -2 ^ 38 ≤ cvOv f i ∧ cvOv f i ≤ 2 ^ 38
  | 0, _ => by simp [cvOv]
  | i + 1, hi => by
    have ih := cvOv_b h i (by omega)
    have hf := h i (by omega)
    simp only [cvOv]
    rcases wd_or i with e | e <;> rw [e.1] <;> omega
theorem cvG_b (f : Nat → Int) (i : Nat) : 0 ≤ cvG f i ∧ cvG f i < 2 ^ wd i := by
  unfold cvG; rcases wd_or i with e | e <;> rw [e.1] <;> omega
theorem cvG_b2 (f : Nat → Int) (i : Nat) : 0 ≤ cvG f i ∧ cvG f i < 2 ^ 26 := by
  have := cvG_b f i; rcases wd_or i with e | e <;> rw [e.1] at this <;> omega
theorem msk (i : Nat) : Int32.toInt64 (isl (nI 1) (nI (wd i)) - nI 1) = lZ (2 ^ wd i - 1) := by
  rcases wd_or i with e | e <;> rw [e.1] <;> decide +kernel
theorem up_Ls {L : Nat → Nat → Int64} {x k : Nat} {v : Int64} : va_up L x (vp_updL (L x) k v) x k = v := by rw [up_eq, pk_uLs]
theorem up_Ln {L : Nat → Nat → Int64} {x k j : Nat} {v : Int64} (h : j ≠ k) : va_up L x (vp_updL (L x) k v) x j = L x j := by rw [up_eq, pk_uLn h]
set_option maxHeartbeats 4000000 in
set_option maxRecDepth 100000 in
theorem ok_X1_carry {l : Launch} {a0 : Nat} {D : va_G} {sa : Nat → Nat} {T : Nat → Option hKd} {I : Nat → Nat → Int32} {L : Nat → Nat → Int64} {R : Nat → Nat → Option Nat} {A : Nat → Nat} (x : Nat) (F : Nat → Int) (hTx : T x = some (.inl (.long, 10))) (hx0 : a0 ≤ A x) (hF : ∀ j, j < 10 → L x j = lZ (F j)) (hB : ∀ i, i < 10 → -2 ^ 62 ≤ F i ∧ F i ≤ 2 ^ 62) : hM l a0 D sa yX1_carry cX1_carry 7 none { frames := 1, cells := 0, slots := 0, locals := 20 } [.ref (A x)] (T, I, L, R, A) (fun r G' => r = none ∧ ∃ L', G' = (T, I, L', R, A) ∧ (∀ j, j < 10 → L' x j = lZ (cvCar F j)) ∧ ∀ q, q ≠ x → L' q = L q) := by
  refine hM.of (by decide +kernel) (Nat.le_of_ble_eq_true rfl) ?_
  intro z hl h0 hD hS hN C E
  subst hl; subst h0; subst hD; subst hS
  have C : hC z RX1 cX1_carry := C
  have hZ := E.2.2.2.1
  show hX z 0 0 (T, I, L, R, A) [(0, .ref (A x))] 0 []
  refine x_lconst (v := lZ 0) C dX1_carry_0 (by decide +kernel) ?_
  refine x_lstore_n (lv' := [(1, .long (lZ 0)), (0, .ref (A x))]) C dX1_carry_1 rfl (Nat.lt_of_lt_of_eq (by decide) hN.symm) rfl ?_
  refine x_iconst (v := nI 0) C dX1_carry_2 (by decide +kernel) ?_
  refine x_istore_n (lv' := [(3, .int (nI 0)), (1, .long (lZ 0)), (0, .ref (A x))]) C dX1_carry_3 rfl (Nat.lt_of_lt_of_eq (by decide) hN.symm) rfl ?_
  have L4 : ∀ (fuel_ : Nat) (i : Nat) (ov : Int) (K : Nat → Nat → Int64), 10 - i < fuel_ → (i ≤ 10) → (ov = cvOv F i) → (∀ q, q ≠ x → K q = L q) → (∀ j, j < 10 → K x j = if j < i then lZ (cvG F j) else L x j) → hX z 0 0 (T, I, K, R, A) [(3, .int (nI i)), (1, .long (lZ ov)), (0, .ref (A x))] 4 [] := by
    intro fuel_
    induction fuel_ with
    | zero => intro i ov K hmz; exact absurd hmz (Nat.not_lt_zero _)
    | succ fuel_ ih4 =>
      intro i ov K hmz hi hov hK hO
      have hb1 := cvOv_b hB i hi
      have hb3 : -2 ^ 38 ≤ ov ∧ ov ≤ 2 ^ 38 := by rw [hov]; exact hb1
      refine x_iload_n C dX1_carry_4 0 rfl rfl ?_
      refine x_bipush (v := nI 10) C dX1_carry_5 (by decide +kernel) ?_
      refine x_icmp_geN (tgt := 48) C (by omega) (by omega) dX1_carry_7 (by decide) (fun c7 => ?_) (fun c7 => ?_)
      · refine x_aload_n C dX1_carry_48 2 rfl rfl ?_
        refine x_iconst (v := nI 0) C dX1_carry_49 (by decide +kernel) ?_
        refine x_dup2 C dX1_carry_50 rfl rfl ?_
        refine x_laldN C hTx (by omega) (by omega) dX1_carry_51 ?_
        refine x_eql (y := lZ (cvG F 0)) (by rw [hO 0 (by decide), if_pos (by omega)]) ?_
        refine x_ldc2 C dX1_carry_52 kc_X1_96 ?_
        refine x_eql (y := lZ 19) (lZ_lit 19) ?_
        refine x_lload_n C dX1_carry_55 1 rfl rfl ?_
        refine x_lmulZ C dX1_carry_56 ?_
        refine x_laddZ C dX1_carry_57 ?_
        refine x_lastN C hTx hx0 (by omega) (by omega) dX1_carry_58 (fun L1 eL1 => ?_)
        refine x_aload_n C dX1_carry_59 2 rfl rfl ?_
        refine x_iconst (v := nI 1) C dX1_carry_60 (by decide +kernel) ?_
        refine x_dup2 C dX1_carry_61 rfl rfl ?_
        refine x_laldN C hTx (by omega) (by omega) dX1_carry_62 ?_
        refine x_eql (y := lZ (cvG F 1)) (by rw [eL1, up_Ln (by decide), hO 1 (by decide), if_pos (by omega)]) ?_
        refine x_aload_n C dX1_carry_63 2 rfl rfl ?_
        refine x_iconst (v := nI 0) C dX1_carry_64 (by decide +kernel) ?_
        refine x_laldN C hTx (by omega) (by omega) dX1_carry_65 ?_
        refine x_eql (y := lZ (cvG F 0 + 19 * ov)) (by rw [eL1, up_Ls]) ?_
        refine x_iconst (v := nI 0) C dX1_carry_66 (by decide +kernel) ?_
        refine x_callS C (ok_X1_width 0 (by omega)) ms_X1_width ml_X1_98 rfl rfl (Nat.le_of_ble_eq_true rfl) (hrm (rm := { frames := 0, cells := 0, slots := 0, locals := 0 }) hZ ⟨Nat.le_of_ble_eq_true rfl, Nat.le_of_ble_eq_true rfl⟩) (hcs hZ ⟨Nat.le_of_ble_eq_true rfl, Nat.le_of_ble_eq_true rfl⟩) dX1_carry_67 (fun v G' hp => ?_)
        obtain ⟨rfl, rfl⟩ := hp
        show hX z 0 0 (T, I, L1, R, A) [(3, .int (nI i)), (1, .long (lZ ov)), (0, .ref (A x))] 70 [.int (nI (wd 0)), .long (lZ (cvG F 0 + 19 * ov)), .long (lZ (cvG F 1)), .int (nI 1), .ref (A x)]
        refine x_lshr C dX1_carry_70 ?_
        refine x_eql (y := lZ ((cvG F 0 + 19 * ov) / 2 ^ wd 0)) (lZ_shr (by have := cvG_b2 F 0; omega) (by have := cvG_b2 F 0; omega) (wd_lt 0)) ?_
        refine x_laddZ C dX1_carry_71 ?_
        refine x_lastN C hTx hx0 (by omega) (by omega) dX1_carry_72 (fun L2 eL2 => ?_)
        refine x_aload_n C dX1_carry_73 2 rfl rfl ?_
        refine x_iconst (v := nI 0) C dX1_carry_74 (by decide +kernel) ?_
        refine x_dup2 C dX1_carry_75 rfl rfl ?_
        refine x_laldN C hTx (by omega) (by omega) dX1_carry_76 ?_
        refine x_eql (y := lZ (cvG F 0 + 19 * ov)) (by rw [eL2, up_Ln (by decide), eL1, up_Ls]) ?_
        refine x_iconst (v := nI 1) C dX1_carry_77 (by decide +kernel) ?_
        refine x_iconst (v := nI 0) C dX1_carry_78 (by decide +kernel) ?_
        refine x_callS C (ok_X1_width 0 (by omega)) ms_X1_width ml_X1_98 rfl rfl (Nat.le_of_ble_eq_true rfl) (hrm (rm := { frames := 0, cells := 0, slots := 0, locals := 0 }) hZ ⟨Nat.le_of_ble_eq_true rfl, Nat.le_of_ble_eq_true rfl⟩) (hcs hZ ⟨Nat.le_of_ble_eq_true rfl, Nat.le_of_ble_eq_true rfl⟩) dX1_carry_79 (fun v G' hp => ?_)
        obtain ⟨rfl, rfl⟩ := hp
        show hX z 0 0 (T, I, L2, R, A) [(3, .int (nI i)), (1, .long (lZ ov)), (0, .ref (A x))] 82 [.int (nI (wd 0)), .int (nI 1), .long (lZ (cvG F 0 + 19 * ov)), .int (nI 0), .ref (A x)]
        refine x_ishl C dX1_carry_82 ?_
        refine x_iconst (v := nI 1) C dX1_carry_83 (by decide +kernel) ?_
        refine x_isub C dX1_carry_84 ?_
        refine x_i2l C dX1_carry_85 ?_
        refine x_eql (y := lZ (2 ^ wd 0 - 1)) (msk 0) ?_
        refine x_land C dX1_carry_86 ?_
        refine x_eql (y := lZ ((cvG F 0 + 19 * ov) % 2 ^ wd 0)) (lZ_and _ (wd_lt 0)) ?_
        refine x_lastN C hTx hx0 (by omega) (by omega) dX1_carry_87 (fun L3 eL3 => ?_)
        exact x_vret C E (Nat.le_of_ble_eq_true rfl) (Nat.le_of_ble_eq_true rfl) dX1_carry_88 (⟨rfl, _, rfl, fun j hj => by
            have h10 : i = 10 := by omega
            rw [hov, h10] at eL1 eL2 eL3
            unfold cvCar
            by_cases e0 : j = 0
            · rw [if_pos e0, e0, eL3, up_Ls]
            · rw [if_neg e0, eL3, up_Ln e0, eL2]
              by_cases e1 : j = 1
              · rw [if_pos e1, e1, up_Ls]
              · rw [if_neg e1, up_Ln e1, eL1, up_Ln e0, hO j hj, if_pos (by omega)],
            fun q hq => by rw [eL3, up_ne _ _ hq, eL2, up_ne _ _ hq, eL1, up_ne _ _ hq]; exact hK q hq⟩)
      · refine x_iload_n C dX1_carry_10 0 rfl rfl ?_
        refine x_callS C (ok_X1_width i (by omega)) ms_X1_width ml_X1_98 rfl rfl (Nat.le_of_ble_eq_true rfl) (hrm (rm := { frames := 0, cells := 0, slots := 0, locals := 0 }) hZ ⟨Nat.le_of_ble_eq_true rfl, Nat.le_of_ble_eq_true rfl⟩) (hcs hZ ⟨Nat.le_of_ble_eq_true rfl, Nat.le_of_ble_eq_true rfl⟩) dX1_carry_11 (fun v G' hp => ?_)
        obtain ⟨rfl, rfl⟩ := hp
        show hX z 0 0 (T, I, K, R, A) [(3, .int (nI i)), (1, .long (lZ ov)), (0, .ref (A x))] 14 [.int (nI (wd i))]
        refine x_istore (lv' := [(4, .int (nI (wd i))), (3, .int (nI i)), (1, .long (lZ ov)), (0, .ref (A x))]) C dX1_carry_14 (Nat.lt_of_lt_of_eq (by decide) hN.symm) rfl ?_
        refine x_aload_n C dX1_carry_16 3 rfl rfl ?_
        refine x_iload_n C dX1_carry_17 1 rfl rfl ?_
        refine x_laldN C hTx (by omega) (by omega) dX1_carry_18 ?_
        refine x_eql (y := lZ (F i)) (by rw [hO i (by omega), if_neg (by omega), hF i (by omega)]) ?_
        refine x_lload_n C dX1_carry_19 2 rfl rfl ?_
        refine x_laddZ C dX1_carry_20 ?_
        refine x_lstore (lv' := [(5, .long (lZ ((F i) + ov))), (4, .int (nI (wd i))), (3, .int (nI i)), (1, .long (lZ ov)), (0, .ref (A x))]) C dX1_carry_21 (Nat.lt_of_lt_of_eq (by decide) hN.symm) rfl ?_
        refine x_lload C dX1_carry_23 0 rfl ?_
        refine x_iload C dX1_carry_25 1 rfl ?_
        refine x_lshr C dX1_carry_27 ?_
        refine x_eql (y := lZ ((F i + ov) / 2 ^ wd i)) (lZ_shr (by have := hB i (by omega); omega) (by have := hB i (by omega); omega) (wd_lt i)) ?_
        refine x_lstore_n (lv' := [(1, .long (lZ ((F i + ov) / 2 ^ wd i))), (5, .long (lZ ((F i) + ov))), (4, .int (nI (wd i))), (3, .int (nI i)), (0, .ref (A x))]) C dX1_carry_28 rfl (Nat.lt_of_lt_of_eq (by decide) hN.symm) rfl ?_
        refine x_aload_n C dX1_carry_29 4 rfl rfl ?_
        refine x_iload_n C dX1_carry_30 3 rfl rfl ?_
        refine x_lload C dX1_carry_31 1 rfl ?_
        refine x_iconst (v := nI 1) C dX1_carry_33 (by decide +kernel) ?_
        refine x_iload C dX1_carry_34 2 rfl ?_
        refine x_ishl C dX1_carry_36 ?_
        refine x_iconst (v := nI 1) C dX1_carry_37 (by decide +kernel) ?_
        refine x_isub C dX1_carry_38 ?_
        refine x_i2l C dX1_carry_39 ?_
        refine x_eql (y := lZ (2 ^ wd i - 1)) (msk i) ?_
        refine x_land C dX1_carry_40 ?_
        refine x_eql (y := lZ ((F i + ov) % 2 ^ wd i)) (lZ_and _ (wd_lt i)) ?_
        refine x_lastN C hTx hx0 (by omega) (by omega) dX1_carry_41 (fun L4 eL4 => ?_)
        refine x_iinc (v := nI (i + 1)) (lv' := [(3, .int (nI (i + 1))), (1, .long (lZ ((F i + ov) / 2 ^ wd i))), (5, .long (lZ ((F i) + ov))), (4, .int (nI (wd i))), (0, .ref (A x))]) C dX1_carry_42 3 rfl (nI_inc 1) (Nat.lt_of_lt_of_eq (by decide) hN.symm) rfl ?_
        refine x_goto (tgt := 4) C dX1_carry_45 (by decide) ?_
        refine x_sub (lv' := _) [0, 1, 4] rfl ?_
        exact ih4 (i + 1) ((F i + ov) / 2 ^ wd i) L4 (by omega) (by omega) (by rw [hov]; rfl) (fun q hq => by rw [eL4, up_ne _ _ hq]; exact hK q hq) (by rw [eL4]; exact wr_al (H := fun j => lZ (cvG F j)) hO (by rw [hov]; rfl))
  refine x_sub (lv' := _) [0, 1, 2] rfl ?_
  exact L4 _ 0 0 L (Nat.lt_succ_self _) (by omega) rfl (fun _ _ => rfl) (fun j _ => by rw [if_neg (by omega)])

