/-! ===== Talk: e; letters when done ===== -/
set_option maxHeartbeats 4000000 in
set_option maxRecDepth 100000 in
theorem ok_X9_sendE {l : Launch} {a0 : Nat} {D : va_G} {sa : Nat → Nat} {T : Nat → Option hKd} {I : Nat → Nat → Int32} {L : Nat → Nat → Int64} {R : Nat → Nat → Option Nat} {A : Nat → Nat} (xO : isX T R A a0) (hsa : ∀ k, k < 5 → sa k = A (90 + k)) (S P : Nat) (hSd : isSd T R A a0 S P) (ha : Nat) (hha : I S 2 = nI ha) (ha2 : ha < 2) (hS3 : 300 ≤ S) (cp cq cr cs : Nat) (h4 : cv4 R cp cq cr cs) (hst : stI I) (s : Nat) (hs : I 105 1 = nI s) (hfit : s + 32 ≤ 160) (sd us : Int32) (hsd : I S 3 = sd) (hus : I (S + 4) 12 = us) : hM l a0 D sa yX9_sendE cX9_sendE 4 none { frames := 5, cells := 0, slots := 0, locals := 184 } [.ref (A 109), .ref (A S), .ref (A 105)] (T, I, L, R, A) (fun r G' => r = none ∧ ∃ I' L' R', G' = (T, I', L', R', A) ∧ (∀ j, j < 32 → I' (S + 4 + 1 + 4) j = secF sd (us + nI 1) j) ∧ (∀ j, j < 32 → I' 106 (s + j) = pubF (secF sd (us + nI 1)) j) ∧ (∀ t, t < s → I' 106 t = I 106 t) ∧ I' 105 = upd (I 105) 1 (nI (s + 32)) ∧ (∀ j, j < 32 → I' (S + 4 + 1 + 1) j = mixF (I (S + 4 + 1 + 1)) (pubF (secF sd (us + nI 1))) 32 j) ∧ I' (S + 4) = upd (I (S + 4)) 12 (us + nI 1) ∧ fx [105, 106, 111, 112, 113, 122, 152, S + 4, S + 4 + 1 + 1, S + 4 + 1 + 4] I I' ∧ fr121 R R' ∧ ∃ p q r s, cv4 R' p q r s) := by
  refine hM.of (by decide +kernel) (Nat.le_of_ble_eq_true rfl) ?_
  intro z hl h0 hD hS hN C E
  subst hl; subst h0; subst hD; subst hS
  have C : hC z RX9 cX9_sendE := C
  have hZ := E.2.2.2.1
  show hX z 0 0 (T, I, L, R, A) [(0, .ref (A 109)), (1, .ref (A S)), (2, .ref (A 105))] 0 []
  refine x_aload_n C dX9_sendE_0 1 rfl rfl ?_
  refine x_getrN C fl_X9_101 hSd.1.1 rfl hSd.2.1.2.2.2.2 dX9_sendE_1 ?_
  refine x_astore_n (lv' := [(3, .ref (A (S + 4))), (0, .ref (A 109)), (1, .ref (A S)), (2, .ref (A 105))]) C dX9_sendE_4 rfl (Nat.lt_of_lt_of_eq (by decide) hN.symm) rfl ?_
  refine x_aload_n C dX9_sendE_5 0 rfl rfl ?_
  refine x_dup C dX9_sendE_6 rfl ?_
  refine x_getiN C fl_X9_226 hSd.2.2.2.1 rfl dX9_sendE_7 ?_
  refine x_eqi (y := us) hus ?_
  refine x_iconst (v := nI 1) C dX9_sendE_10 (by decide +kernel) ?_
  refine x_iadd C dX9_sendE_11 ?_
  refine x_putiN C fl_X9_226 hSd.2.2.2.1 hSd.2.2.2.2.1 rfl dX9_sendE_12 (fun I1 eI1 => ?_)
  have f_I1 : fx [105, 106, 111, 112, 113, 122, 152, S + 4, S + 4 + 1 + 1, S + 4 + 1 + 4] I I1 := by rw [eI1]; exact fx.rf.up (by simp)
  have fN : fx [S + 4] I I1 := by rw [eI1]; exact fx.rf.up (by simp)
  refine x_aload_n C dX9_sendE_15 1 rfl rfl ?_
  refine x_aload_n C dX9_sendE_16 2 rfl rfl ?_
  refine x_getiN C fl_X9_229 hSd.1.1 rfl dX9_sendE_17 ?_
  refine x_eqi (y := sd) (by rw [eI1, va_up_other _ _ (by omega)]; exact hsd) ?_
  refine x_aload_n C dX9_sendE_20 0 rfl rfl ?_
  refine x_getiN C fl_X9_226 hSd.2.2.2.1 rfl dX9_sendE_21 ?_
  refine x_eqi (y := us + nI 1) (by rw [eI1, va_up_same]; simp [upd]) ?_
  refine x_aload_n C dX9_sendE_24 0 rfl rfl ?_
  refine x_getrN C fl_X9_232 hSd.2.2.2.1 rfl (hSd.2.2.2.2.2 4 (by decide)).1 dX9_sendE_25 ?_
  refine x_callV C (ok_X9_secretOf xO hsa sd (us + nI 1) (S + 4 + 1 + 4) 32 (f_I1.st (by intro k hk; simp; omega) hst) (hSd.2.2.2.2.2 4 (by decide)).2.1 (by decide) (by decide) (hSd.2.2.2.2.2 4 (by decide)).2.2 (by omega)) mv_X9_secretOf ml_X9_72 (xO.1 109 _ rfl).1 rfl rfl rfl (Nat.le_of_ble_eq_true rfl) (hrm (rm := { frames := 0, cells := 0, slots := 0, locals := 0 }) hZ ⟨Nat.le_of_ble_eq_true rfl, Nat.le_of_ble_eq_true rfl⟩) (hcs hZ ⟨Nat.le_of_ble_eq_true rfl, Nat.le_of_ble_eq_true rfl⟩) dX9_sendE_28 (fun v G' hp => ?_)
  obtain ⟨rfl, J2, rfl, s1, s2⟩ := hp
  have f2 : fx [105, 106, 111, 112, 113, 122, 152, S + 4, S + 4 + 1 + 1, S + 4 + 1 + 4] I J2 := f_I1.tr s2 (by simp)
  show hX z 0 0 (T, J2, L, R, A) [(3, .ref (A (S + 4))), (0, .ref (A 109)), (1, .ref (A S)), (2, .ref (A 105))] 31 []
  refine x_aload_n C dX9_sendE_31 1 rfl rfl ?_
  refine x_getrN C fl_X9_28 (xO.1 109 _ rfl).1 rfl (xO.2.1 109 2 _ rfl) dX9_sendE_32 ?_
  refine x_aload_n C dX9_sendE_35 0 rfl rfl ?_
  refine x_getrN C fl_X9_232 hSd.2.2.2.1 rfl (hSd.2.2.2.2.2 4 (by decide)).1 dX9_sendE_36 ?_
  refine x_getsN (k := 3) C (hsa 3 (by decide)) rfl sl_X9_76 dX9_sendE_39 ?_
  refine x_aload_n C dX9_sendE_42 1 rfl rfl ?_
  refine x_getrN C fl_X9_50 (xO.1 109 _ rfl).1 rfl (xO.2.1 109 6 _ rfl) dX9_sendE_43 ?_
  refine x_callV C (ok_X1_multiplyPoint xO hsa cp cq cr cs h4 (S + 4 + 1 + 4) 32 93 32 152 32 b9 (hSd.2.2.2.2.2 4 (by decide)).2.1 (by decide) (by decide) (xO.2.2 93 _ rfl) (by decide) (by decide) (by decide) (xO.1 152 _ rfl).1 (xO.1 152 _ rfl).2 (by decide) (by decide) (by decide) (fun j hj => ⟨((f2.st (by intro k hk; simp; omega) hst).2.2.1 j hj).trans (by unfold b9; split <;> rfl), by unfold b9; split <;> decide⟩)) mv_X1_multiplyPoint ml_X9_79 (xO.1 121 _ rfl).1 rfl rfl rfl (Nat.le_of_ble_eq_true rfl) (hrm (rm := { frames := 0, cells := 0, slots := 0, locals := 0 }) hZ ⟨Nat.le_of_ble_eq_true rfl, Nat.le_of_ble_eq_true rfl⟩) (hcs hZ ⟨Nat.le_of_ble_eq_true rfl, Nat.le_of_ble_eq_true rfl⟩) dX9_sendE_46 (fun v G' hp => ?_)
  obtain ⟨rfl, J3, L1, R1, rfl, d1, d2, d3, d4⟩ := hp
  have xO := isX.r121 xO d3
  have hSd := isSd.r121 hSd hS3 d3
  have f3 : fx [105, 106, 111, 112, 113, 122, 152, S + 4, S + 4 + 1 + 1, S + 4 + 1 + 4] I J3 := f2.tr d2 (by simp)
  have d5 : ∀ i, i < 32 → J3 152 i = pubF (secF sd (us + nI 1)) i := fun i hi => by rw [d1]; simp only [hi, if_true]; rw [mp_pub]; exact pub_cong (fun j hj => by rw [s1]; simp only [hj, if_true]) i
  show hX z 0 0 (T, J3, L1, R1, A) [(3, .ref (A (S + 4))), (0, .ref (A 109)), (1, .ref (A S)), (2, .ref (A 105))] 49 []
  refine x_aload_n C dX9_sendE_49 1 rfl rfl ?_
  refine x_aload_n C dX9_sendE_50 0 rfl rfl ?_
  refine x_aload_n C dX9_sendE_51 1 rfl rfl ?_
  refine x_getrN C fl_X9_50 (xO.1 109 _ rfl).1 rfl (xO.2.1 109 6 _ rfl) dX9_sendE_52 ?_
  refine x_iconst (v := nI 0) C dX9_sendE_55 (by decide +kernel) ?_
  refine x_bipush (v := nI 32) C dX9_sendE_56 (by decide +kernel) ?_
  refine x_callV C (ok_X9_mixHash xO hsa (S + 4) (S + 4 + 1 + 1) 152 32 0 32 (f3.st (by intro k hk; simp; omega) hst) hSd.2.2.2.1 (hSd.2.2.2.2.2 1 (by decide)).1 (hSd.2.2.2.2.2 1 (by decide)).2.1 (hSd.2.2.2.2.2 1 (by decide)).2.2 (by omega) (xO.1 152 _ rfl).1 (by decide) (by decide) (by decide) (by decide)) mv_X9_mixHash ml_X9_158 (xO.1 109 _ rfl).1 rfl rfl rfl (Nat.le_of_ble_eq_true rfl) (hrm (rm := { frames := 0, cells := 0, slots := 0, locals := 0 }) hZ ⟨Nat.le_of_ble_eq_true rfl, Nat.le_of_ble_eq_true rfl⟩) (hcs hZ ⟨Nat.le_of_ble_eq_true rfl, Nat.le_of_ble_eq_true rfl⟩) dX9_sendE_58 (fun v G' hp => ?_)
  obtain ⟨rfl, J4, rfl, m1, m2⟩ := hp
  have f4 : fx [105, 106, 111, 112, 113, 122, 152, S + 4, S + 4 + 1 + 1, S + 4 + 1 + 4] I J4 := f3.tr m2 (by simp)
  show hX z 0 0 (T, J4, L1, R1, A) [(3, .ref (A (S + 4))), (0, .ref (A 109)), (1, .ref (A S)), (2, .ref (A 105))] 61 []
  refine x_aload_n C dX9_sendE_61 3 rfl rfl ?_
  refine x_aload_n C dX9_sendE_62 1 rfl rfl ?_
  refine x_getrN C fl_X9_50 (xO.1 109 _ rfl).1 rfl (xO.2.1 109 6 _ rfl) dX9_sendE_63 ?_
  refine x_iconst (v := nI 0) C dX9_sendE_66 (by decide +kernel) ?_
  refine x_bipush (v := nI 32) C dX9_sendE_67 (by decide +kernel) ?_
  refine x_callV C (ok_X4_putAll 105 106 160 s (xO.1 105 _ rfl).1 (xO.2.1 105 0 _ rfl) (xO.1 106 _ rfl).1 (by decide) (by rw [m2 105 (by simp <;> omega), d2 105 (by decide), s2 105 (by simp <;> omega), fN 105 (by simp <;> omega)]; exact hs) (by omega) (xO.1 105 _ rfl).2 (xO.1 106 _ rfl).2 (by decide) 152 32 0 32 (xO.1 152 _ rfl).1 (by decide) (by decide) (by decide) (by omega) (by decide) (by decide)) mv_X4_putAll ml_X9_204 (xO.1 105 _ rfl).1 rfl rfl rfl (Nat.le_of_ble_eq_true rfl) (hrm (rm := { frames := 0, cells := 0, slots := 0, locals := 0 }) hZ ⟨Nat.le_of_ble_eq_true rfl, Nat.le_of_ble_eq_true rfl⟩) (hcs hZ ⟨Nat.le_of_ble_eq_true rfl, Nat.le_of_ble_eq_true rfl⟩) dX9_sendE_69 (fun v G' hp => ?_)
  obtain ⟨rfl, J5, rfl, r1, r2, r3⟩ := hp
  show hX z 0 0 (T, J5, L1, R1, A) [(3, .ref (A (S + 4))), (0, .ref (A 109)), (1, .ref (A S)), (2, .ref (A 105))] 72 []
  exact x_vret C E (Nat.le_of_ble_eq_true rfl) (Nat.le_of_ble_eq_true rfl) dX9_sendE_72 (by
      have g6 : J4 106 = I 106 := by rw [m2 106 (by simp <;> omega), d2 106 (by decide), s2 106 (by simp <;> omega), fN 106 (by simp <;> omega)]
      have g5 : J4 105 = I 105 := by rw [m2 105 (by simp <;> omega), d2 105 (by decide), s2 105 (by simp <;> omega), fN 105 (by simp <;> omega)]
      have gh : J3 (S + 4 + 1 + 1) = I (S + 4 + 1 + 1) := by rw [d2 (S + 4 + 1 + 1) (by simp <;> omega), s2 (S + 4 + 1 + 1) (by simp <;> omega), fN (S + 4 + 1 + 1) (by simp <;> omega)]
      refine ⟨rfl, J5, L1, R1, rfl, fun j hj => ?_, fun j hj => ?_, fun t ht => ?_, ?_, fun j hj => ?_, ?_, f4.tr r3 (by simp), d3, d4⟩
      · rw [r3 (S + 4 + 1 + 4) (by simp <;> omega), m2 (S + 4 + 1 + 4) (by simp <;> omega), d2 (S + 4 + 1 + 4) (by simp <;> omega), s1]; simp only [hj, if_true]
      · rw [r1]; show (if s ≤ s + j ∧ s + j < s + (32 - 0) then J4 152 (0 + (s + j - s)) else _) = _
        rw [if_pos (by omega), m2 152 (by simp <;> omega), show 0 + (s + j - s) = j by omega, d5 j hj]
      · rw [r1]; show (if s ≤ t ∧ t < s + (32 - 0) then _ else J4 106 t) = _
        rw [if_neg (by omega), g6]
      · rw [r2, g5]
      · rw [r3 (S + 4 + 1 + 1) (by simp <;> omega), m1]; simp only [hj, if_true]
        rw [gh]; exact congrFun (mixF_cg (n := 32) (fun _ _ => rfl) (fun i hi => by show J3 152 (0 + i) = _; rw [Nat.zero_add]; exact d5 i hi)) j
      · rw [r3 (S + 4) (by simp <;> omega), m2 (S + 4) (by simp <;> omega), d2 (S + 4) (by simp <;> omega), s2 (S + 4) (by simp <;> omega), eI1, va_up_same])

set_option maxHeartbeats 4000000 in
set_option maxRecDepth 100000 in
theorem ok_X9_takeE {l : Launch} {a0 : Nat} {D : va_G} {sa : Nat → Nat} {T : Nat → Option hKd} {I : Nat → Nat → Int32} {L : Nat → Nat → Int64} {R : Nat → Nat → Option Nat} {A : Nat → Nat} (xO : isX T R A a0) (hsa : ∀ k, k < 5 → sa k = A (90 + k)) (hst : stI I) (f : Nat) (hf : f + 32 ≤ 160) : hM l a0 D sa yX9_takeE cX9_takeE 3 none { frames := 4, cells := 0, slots := 0, locals := 102 } [.ref (A 109), .ref (A 105), .int (nI f)] (T, I, L, R, A) (fun r G' => r = none ∧ ∃ I', G' = (T, I', L, R, A) ∧ (∀ j, j < 32 → I' 149 j = I 106 (f + j)) ∧ (∀ j, j < 32 → I' 145 j = mixF (I 145) (fun j => I 106 (f + j)) 32 j) ∧ I' 143 = upd (I 143) 8 (nI 1) ∧ fx [111, 112, 113, 143, 145, 149] I I') := by
  refine hM.of (by decide +kernel) (Nat.le_of_ble_eq_true rfl) ?_
  intro z hl h0 hD hS hN C E
  subst hl; subst h0; subst hD; subst hS
  have C : hC z RX9 cX9_takeE := C
  have hZ := E.2.2.2.1
  show hX z 0 0 (T, I, L, R, A) [(0, .ref (A 109)), (1, .ref (A 105)), (2, .int (nI f))] 0 []
  refine x_aload_n C dX9_takeE_0 1 rfl rfl ?_
  refine x_getrN C fl_X9_185 (xO.1 105 _ rfl).1 rfl (xO.2.1 105 0 _ rfl) dX9_takeE_1 ?_
  refine x_iload_n C dX9_takeE_4 2 rfl rfl ?_
  refine x_aload_n C dX9_takeE_5 0 rfl rfl ?_
  refine x_getrN C fl_X9_42 (xO.1 109 _ rfl).1 rfl (xO.2.1 109 4 _ rfl) dX9_takeE_6 ?_
  refine x_getrN C fl_X9_235 (xO.1 143 _ rfl).1 rfl (xO.2.1 143 5 _ rfl) dX9_takeE_9 ?_
  refine x_iconst (v := nI 0) C dX9_takeE_12 (by decide +kernel) ?_
  refine x_bipush (v := nI 32) C dX9_takeE_13 (by decide +kernel) ?_
  refine x_copyi C (xO.1 106 _ rfl).1 (xO.1 149 _ rfl).1 (xO.1 149 _ rfl).2 (by omega) (by omega) (by omega) (by omega) ml_X9_238 (hrm (rm := { frames := 0, cells := 0, slots := 0, locals := 0 }) hZ ⟨Nat.le_of_ble_eq_true rfl, by decide +kernel⟩) dX9_takeE_15 (fun I1 eI1 => ?_)
  have f_I1 : fx [111, 112, 113, 143, 145, 149] I I1 := by rw [eI1]; exact (fx.rf).up (by decide)
  refine x_aload_n C dX9_takeE_18 0 rfl rfl ?_
  refine x_getrN C fl_X9_42 (xO.1 109 _ rfl).1 rfl (xO.2.1 109 4 _ rfl) dX9_takeE_19 ?_
  refine x_iconst (v := nI 1) C dX9_takeE_22 (by decide +kernel) ?_
  refine x_putzN C fl_X9_132 (xO.1 143 _ rfl).1 (xO.1 143 _ rfl).2 rfl (by first | exact Or.inl rfl | exact Or.inr rfl | assumption) dX9_takeE_23 (fun I2 eI2 => ?_)
  have f_I2 : fx [111, 112, 113, 143, 145, 149] I I2 := by rw [eI2]; exact (f_I1).up (by decide)
  refine x_aload_n C dX9_takeE_26 0 rfl rfl ?_
  refine x_aload_n C dX9_takeE_27 0 rfl rfl ?_
  refine x_getrN C fl_X9_42 (xO.1 109 _ rfl).1 rfl (xO.2.1 109 4 _ rfl) dX9_takeE_28 ?_
  refine x_aload_n C dX9_takeE_31 0 rfl rfl ?_
  refine x_getrN C fl_X9_42 (xO.1 109 _ rfl).1 rfl (xO.2.1 109 4 _ rfl) dX9_takeE_32 ?_
  refine x_getrN C fl_X9_235 (xO.1 143 _ rfl).1 rfl (xO.2.1 143 5 _ rfl) dX9_takeE_35 ?_
  refine x_iconst (v := nI 0) C dX9_takeE_38 (by decide +kernel) ?_
  refine x_bipush (v := nI 32) C dX9_takeE_39 (by decide +kernel) ?_
  refine x_callV C (ok_X9_mixHash xO hsa 143 145 149 32 0 32 (f_I2.st (by decide) hst) (xO.1 143 _ rfl).1 (xO.2.1 143 1 _ rfl) (xO.1 145 _ rfl).1 (xO.1 145 _ rfl).2 (by decide) (xO.1 149 _ rfl).1 (by decide) (by decide) (by decide) (by decide)) mv_X9_mixHash ml_X9_158 (xO.1 109 _ rfl).1 rfl rfl rfl (Nat.le_of_ble_eq_true rfl) (hrm (rm := { frames := 0, cells := 0, slots := 0, locals := 0 }) hZ ⟨Nat.le_of_ble_eq_true rfl, Nat.le_of_ble_eq_true rfl⟩) (hcs hZ ⟨Nat.le_of_ble_eq_true rfl, Nat.le_of_ble_eq_true rfl⟩) dX9_takeE_41 (fun v G' hp => ?_)
  obtain ⟨rfl, J3, rfl, m1, m2⟩ := hp
  show hX z 0 0 (T, J3, L, R, A) [(0, .ref (A 109)), (1, .ref (A 105)), (2, .int (nI f))] 44 []
  exact x_vret C E (Nat.le_of_ble_eq_true rfl) (Nat.le_of_ble_eq_true rfl) dX9_takeE_44 (by
      have g9 : ∀ j, j < 32 → I2 149 j = I 106 (f + j) := fun j hj => by
        rw [eI2, va_up_other _ _ (by decide), eI1, va_up_same]
        first | (simp only [hj, if_true, Nat.zero_add, Nat.sub_zero]; done) | (simp [hj]; done)
      refine ⟨rfl, J3, rfl, fun j hj => ?_, fun j hj => ?_, ?_, f_I2.tr m2 (by decide)⟩
      · rw [m2 149 (by decide)]; exact g9 j hj
      · rw [m1]; simp only [hj, if_true]
        rw [show I2 145 = I 145 from by rw [eI2, va_up_other _ _ (by decide), eI1, va_up_other _ _ (by decide)]]; exact congrFun (mixF_cg (n := 32) (fun _ _ => rfl) (fun i hi => by show I2 149 (0 + i) = _; rw [Nat.zero_add]; exact g9 i hi)) j
      · rw [m2 143 (by decide), eI2, va_up_same, eI1, va_up_other _ _ (by decide)])

