set_option maxHeartbeats 4000000 in
set_option maxRecDepth 100000 in
theorem ok_X5_init {l : Launch} {a0 : Nat} {D : va_G} {sa : Nat → Nat} {G : hG} (h n N : Nat) (hN : n + 2 ≤ N) (hh : h < n ∨ N ≤ h) (hT : G.1 h = some (.inr 5)) (hA : a0 ≤ gA G h) (h00 : ∀ j, G.2.1 h j = 0) (F : fre n N G) : hM l a0 D sa yX5_init cX5_init 1 none { frames := 1, cells := 2, slots := 72, locals := 20 } [.ref (gA G h)] G (fun v G' => v = none ∧ blt a0 h n (n + 2) N 2 iv0 [(n, .inl (.int, 8)), (n + 1, .inl (.int, 64))] [(h, 0, n), (h, 1, n + 1)] G G') := by
  refine hM.of (by decide +kernel) (Nat.le_of_ble_eq_true rfl) ?_
  intro z hl h0 hD hS hNn C E
  subst hl; subst h0; subst hD; subst hS
  have C : hC z RX5 cX5_init := C
  have hZ := E.2.2.2.1
  show hX z 0 0 G [(0, .ref (gA G h))] 0 []
  have K : mkr z RX5 G h n N 5 := ⟨E.2.2.1, rfl, hT, hA, h00, F⟩
  have b0 : blt (z0 z) h n n N 0 iv0 [] [] G G := blt.rf hh (by omega)
  refine x_aload_n C dX5_init_0 0 rfl rfl ?_
  refine x_objInit C ml_X5_3 obj_inst obj_code (hrm (rm := { frames := 0, cells := 0, slots := 0, locals := 0 }) hZ ⟨Nat.le_of_ble_eq_true rfl, Nat.le_of_ble_eq_true rfl⟩) dX5_init_1 ?_
  refine x_aload_n C dX5_init_4 0 rfl rfl ?_
  refine x_bipush (v := nI 8) C dX5_init_5 (by decide +kernel) ?_
  refine s_arr (len := 8) (k := 0) C K b0 (by omega) (fun _ => rfl) (by decide) fl_X5_9 rfl rfl (Or.inl rfl) ac_int (by decide) (by rw [hZ]; exact Nat.le_of_ble_eq_true rfl) (by rw [hZ]; exact Nat.le_of_ble_eq_true rfl) dX5_init_7 dX5_init_9 (fun G1 b1 => ?_)
  refine x_aload_n C dX5_init_12 0 rfl rfl ?_
  refine x_bipush (v := nI 64) C dX5_init_13 (by decide +kernel) ?_
  refine s_arr (len := 64) (k := 1) C K b1 (by omega) (fun _ => rfl) (by decide) fl_X5_15 rfl rfl (Or.inl rfl) ac_int (by decide) (by rw [hZ]; exact Nat.le_of_ble_eq_true rfl) (by rw [hZ]; exact Nat.le_of_ble_eq_true rfl) dX5_init_15 dX5_init_17 (fun G2 b2 => ?_)
  refine x_aload_n C dX5_init_20 0 rfl rfl ?_
  refine x_iconst (v := nI 0) C dX5_init_21 (by decide +kernel) ?_
  refine s_put0 C K b2 fl_X5_18 (Or.inl rfl) dX5_init_22 ?_
  refine x_aload_n C dX5_init_25 0 rfl rfl ?_
  refine x_iconst (v := nI 0) C dX5_init_26 (by decide +kernel) ?_
  refine s_put0 C K b2 fl_X5_22 (Or.inl rfl) dX5_init_27 ?_
  exact x_vret C E (Nat.le_of_ble_eq_true rfl) (Nat.le_of_ble_eq_true rfl) dX5_init_30 ⟨rfl, b2⟩
set_option maxHeartbeats 4000000 in
set_option maxRecDepth 100000 in
theorem ok_X4_init {l : Launch} {a0 : Nat} {D : va_G} {sa : Nat → Nat} {G : hG} (h n N : Nat) (len : Nat) (hlen : len < 2 ^ 20) (hN : n + 1 ≤ N) (hh : h < n ∨ N ≤ h) (hT : G.1 h = some (.inr 4)) (hA : a0 ≤ gA G h) (h00 : ∀ j, G.2.1 h j = 0) (F : fre n N G) : hM l a0 D sa yX4_init cX4_init 2 none { frames := 1, cells := 1, slots := len, locals := 20 } [.ref (gA G h), .int (nI len)] G (fun v G' => v = none ∧ blt a0 h n (n + 1) N 1 iv0 [(n, .inl (.int, len))] [(h, 0, n)] G G') := by
  refine hM.of (by decide +kernel) (Nat.le_of_ble_eq_true rfl) ?_
  intro z hl h0 hD hS hNn C E
  subst hl; subst h0; subst hD; subst hS
  have C : hC z RX4 cX4_init := C
  have hZ := E.2.2.2.1
  show hX z 0 0 G [(0, .ref (gA G h)), (1, .int (nI len))] 0 []
  have K : mkr z RX4 G h n N 4 := ⟨E.2.2.1, rfl, hT, hA, h00, F⟩
  have b0 : blt (z0 z) h n n N 0 iv0 [] [] G G := blt.rf hh (by omega)
  refine x_aload_n C dX4_init_0 0 rfl rfl ?_
  refine x_objInit C ml_X4_3 obj_inst obj_code (hrm (rm := { frames := 0, cells := 0, slots := 0, locals := 0 }) hZ ⟨Nat.le_of_ble_eq_true rfl, Nat.le_of_ble_eq_true rfl⟩) dX4_init_1 ?_
  refine x_aload_n C dX4_init_4 0 rfl rfl ?_
  refine x_iconst (v := nI 0) C dX4_init_5 (by decide +kernel) ?_
  refine s_put0 C K b0 fl_X4_9 (Or.inl rfl) dX4_init_6 ?_
  refine x_aload_n C dX4_init_9 0 rfl rfl ?_
  refine x_iload_n C dX4_init_10 1 rfl rfl ?_
  refine s_arr (len := len) (k := 0) C K b0 (by omega) (fun _ => rfl) (by decide) fl_X4_15 rfl rfl (Or.inl rfl) ac_int hlen (by rw [hZ]; exact Nat.le_of_ble_eq_true rfl) (by rw [hZ]; show 0 + len ≤ len; omega) dX4_init_11 dX4_init_13 (fun G1 b1 => ?_)
  exact x_vret C E (Nat.le_of_ble_eq_true rfl) (by show 0 + len ≤ len; omega) dX4_init_16 ⟨rfl, b1⟩
set_option maxHeartbeats 4000000 in
set_option maxRecDepth 100000 in
theorem ok_X2_init {l : Launch} {a0 : Nat} {D : va_G} {sa : Nat → Nat} {G : hG} (h n N : Nat) (hN : n + 6 ≤ N) (hh : h < n ∨ N ≤ h) (hT : G.1 h = some (.inr 2)) (hA : a0 ≤ gA G h) (h00 : ∀ j, G.2.1 h j = 0) (F : fre n N G) : hM l a0 D sa yX2_init cX2_init 1 none { frames := 2, cells := 6, slots := 173, locals := 40 } [.ref (gA G h)] G (fun v G' => v = none ∧ blt a0 h n (n + 6) N 4 iv0 [(n, .inr 5), (n + 1, .inl (.int, 8)), (n + 2, .inl (.int, 64)), (n + 3, .inl (.int, 32)), (n + 4, .inl (.int, 32)), (n + 5, .inl (.int, 33))] [(n, 0, n + 1), (n, 1, n + 2), (h, 0, n), (h, 1, n + 3), (h, 2, n + 4), (h, 3, n + 5)] G G') := by
  refine hM.of (by decide +kernel) (Nat.le_of_ble_eq_true rfl) ?_
  intro z hl h0 hD hS hNn C E
  subst hl; subst h0; subst hD; subst hS
  have C : hC z RX2 cX2_init := C
  have hZ := E.2.2.2.1
  show hX z 0 0 G [(0, .ref (gA G h))] 0 []
  have K : mkr z RX2 G h n N 2 := ⟨E.2.2.1, rfl, hT, hA, h00, F⟩
  have b0 : blt (z0 z) h n n N 0 iv0 [] [] G G := blt.rf hh (by omega)
  refine x_aload_n C dX2_init_0 0 rfl rfl ?_
  refine x_objInit C ml_X2_3 obj_inst obj_code (hrm (rm := { frames := 0, cells := 0, slots := 0, locals := 0 }) hZ ⟨Nat.le_of_ble_eq_true rfl, Nat.le_of_ble_eq_true rfl⟩) dX2_init_1 ?_
  refine x_aload_n C dX2_init_4 0 rfl rfl ?_
  refine s_new (cj := 5) C K b0 (by omega) (fun _ => rfl) hc_X5 (by decide +kernel) cl_X2_9 it_X5 ini_X5 (by rw [hZ]; exact Nat.le_of_ble_eq_true rfl) (by rw [hZ]; exact Nat.le_of_ble_eq_true rfl) dX2_init_5 (fun G1 b1 k1 => ?_)
  refine x_dup C dX2_init_8 rfl ?_
  refine x_callIN C (ok_X5_init (n) (n + 1) N (by omega) (by omega) k1.1 k1.2.1 k1.2.2.1 k1.2.2.2) mi_X5_init ml_X2_11 rfl rfl (Nat.le_of_ble_eq_true rfl) (hrm (rm := { frames := 0, cells := 0, slots := 0, locals := 0 }) hZ ⟨Nat.le_of_ble_eq_true rfl, Nat.le_of_ble_eq_true rfl⟩) (hcs hZ ⟨Nat.le_of_ble_eq_true rfl, Nat.le_of_ble_eq_true rfl⟩) dX2_init_9 (fun v G' hp => ?_)
  obtain ⟨rfl, c1⟩ := hp
  refine s_fin (k := 0) C K b0 b1 (by omega) c1 (by decide) fl_X2_12 rfl rfl dX2_init_12 (fun G10 b10 => ?_)
  refine x_aload_n C dX2_init_15 0 rfl rfl ?_
  refine x_bipush (v := nI 32) C dX2_init_16 (by decide +kernel) ?_
  refine s_arr (len := 32) (k := 1) C K b10 (by omega) (fun _ => rfl) (by decide) fl_X2_18 rfl rfl (Or.inl rfl) ac_int (by decide) (by rw [hZ]; exact Nat.le_of_ble_eq_true rfl) (by rw [hZ]; exact Nat.le_of_ble_eq_true rfl) dX2_init_18 dX2_init_20 (fun G2 b2 => ?_)
  refine x_aload_n C dX2_init_23 0 rfl rfl ?_
  refine x_bipush (v := nI 32) C dX2_init_24 (by decide +kernel) ?_
  refine s_arr (len := 32) (k := 2) C K b2 (by omega) (fun _ => rfl) (by decide) fl_X2_22 rfl rfl (Or.inl rfl) ac_int (by decide) (by rw [hZ]; exact Nat.le_of_ble_eq_true rfl) (by rw [hZ]; exact Nat.le_of_ble_eq_true rfl) dX2_init_26 dX2_init_28 (fun G3 b3 => ?_)
  refine x_aload_n C dX2_init_31 0 rfl rfl ?_
  refine x_bipush (v := nI 33) C dX2_init_32 (by decide +kernel) ?_
  refine s_arr (len := 33) (k := 3) C K b3 (by omega) (fun _ => rfl) (by decide) fl_X2_25 rfl rfl (Or.inl rfl) ac_int (by decide) (by rw [hZ]; exact Nat.le_of_ble_eq_true rfl) (by rw [hZ]; exact Nat.le_of_ble_eq_true rfl) dX2_init_34 dX2_init_36 (fun G4 b4 => ?_)
  exact x_vret C E (Nat.le_of_ble_eq_true rfl) (Nat.le_of_ble_eq_true rfl) dX2_init_39 ⟨rfl, b4⟩
set_option maxHeartbeats 4000000 in
set_option maxRecDepth 100000 in
theorem ok_X1_init {l : Launch} {a0 : Nat} {D : va_G} {sa : Nat → Nat} {G : hG} (h n N : Nat) (hN : n + 10 ≤ N) (hh : h < n ∨ N ≤ h) (hT : G.1 h = some (.inr 1)) (hA : a0 ≤ gA G h) (h00 : ∀ j, G.2.1 h j = 0) (F : fre n N G) : hM l a0 D sa yX1_init cX1_init 1 none { frames := 1, cells := 10, slots := 122, locals := 20 } [.ref (gA G h)] G (fun v G' => v = none ∧ blt a0 h n (n + 10) N 10 iv0 [(n, .inl (.int, 32)), (n + 1, .inl (.long, 10)), (n + 2, .inl (.long, 10)), (n + 3, .inl (.long, 10)), (n + 4, .inl (.long, 10)), (n + 5, .inl (.long, 10)), (n + 6, .inl (.long, 10)), (n + 7, .inl (.long, 10)), (n + 8, .inl (.long, 10)), (n + 9, .inl (.long, 10))] [(h, 0, n), (h, 1, n + 1), (h, 2, n + 2), (h, 3, n + 3), (h, 4, n + 4), (h, 5, n + 5), (h, 6, n + 6), (h, 7, n + 7), (h, 8, n + 8), (h, 9, n + 9)] G G') := by
  refine hM.of (by decide +kernel) (Nat.le_of_ble_eq_true rfl) ?_
  intro z hl h0 hD hS hNn C E
  subst hl; subst h0; subst hD; subst hS
  have C : hC z RX1 cX1_init := C
  have hZ := E.2.2.2.1
  show hX z 0 0 G [(0, .ref (gA G h))] 0 []
  have K : mkr z RX1 G h n N 1 := ⟨E.2.2.1, rfl, hT, hA, h00, F⟩
  have b0 : blt (z0 z) h n n N 0 iv0 [] [] G G := blt.rf hh (by omega)
  refine x_aload_n C dX1_init_0 0 rfl rfl ?_
  refine x_objInit C ml_X1_3 obj_inst obj_code (hrm (rm := { frames := 0, cells := 0, slots := 0, locals := 0 }) hZ ⟨Nat.le_of_ble_eq_true rfl, Nat.le_of_ble_eq_true rfl⟩) dX1_init_1 ?_
  refine x_aload_n C dX1_init_4 0 rfl rfl ?_
  refine x_bipush (v := nI 32) C dX1_init_5 (by decide +kernel) ?_
  refine s_arr (len := 32) (k := 0) C K b0 (by omega) (fun _ => rfl) (by decide) fl_X1_9 rfl rfl (Or.inl rfl) ac_int (by decide) (by rw [hZ]; exact Nat.le_of_ble_eq_true rfl) (by rw [hZ]; exact Nat.le_of_ble_eq_true rfl) dX1_init_7 dX1_init_9 (fun G1 b1 => ?_)
  refine x_aload_n C dX1_init_12 0 rfl rfl ?_
  refine x_bipush (v := nI 10) C dX1_init_13 (by decide +kernel) ?_
  refine s_arr (len := 10) (k := 1) C K b1 (by omega) (fun _ => rfl) (by decide) fl_X1_15 rfl rfl (Or.inr (Or.inl rfl)) ac_long (by decide) (by rw [hZ]; exact Nat.le_of_ble_eq_true rfl) (by rw [hZ]; exact Nat.le_of_ble_eq_true rfl) dX1_init_15 dX1_init_17 (fun G2 b2 => ?_)
  refine x_aload_n C dX1_init_20 0 rfl rfl ?_
  refine x_bipush (v := nI 10) C dX1_init_21 (by decide +kernel) ?_
  refine s_arr (len := 10) (k := 2) C K b2 (by omega) (fun _ => rfl) (by decide) fl_X1_19 rfl rfl (Or.inr (Or.inl rfl)) ac_long (by decide) (by rw [hZ]; exact Nat.le_of_ble_eq_true rfl) (by rw [hZ]; exact Nat.le_of_ble_eq_true rfl) dX1_init_23 dX1_init_25 (fun G3 b3 => ?_)
  refine x_aload_n C dX1_init_28 0 rfl rfl ?_
  refine x_bipush (v := nI 10) C dX1_init_29 (by decide +kernel) ?_
  refine s_arr (len := 10) (k := 3) C K b3 (by omega) (fun _ => rfl) (by decide) fl_X1_22 rfl rfl (Or.inr (Or.inl rfl)) ac_long (by decide) (by rw [hZ]; exact Nat.le_of_ble_eq_true rfl) (by rw [hZ]; exact Nat.le_of_ble_eq_true rfl) dX1_init_31 dX1_init_33 (fun G4 b4 => ?_)
  refine x_aload_n C dX1_init_36 0 rfl rfl ?_
  refine x_bipush (v := nI 10) C dX1_init_37 (by decide +kernel) ?_
  refine s_arr (len := 10) (k := 4) C K b4 (by omega) (fun _ => rfl) (by decide) fl_X1_25 rfl rfl (Or.inr (Or.inl rfl)) ac_long (by decide) (by rw [hZ]; exact Nat.le_of_ble_eq_true rfl) (by rw [hZ]; exact Nat.le_of_ble_eq_true rfl) dX1_init_39 dX1_init_41 (fun G5 b5 => ?_)
  refine x_aload_n C dX1_init_44 0 rfl rfl ?_
  refine x_bipush (v := nI 10) C dX1_init_45 (by decide +kernel) ?_
  refine s_arr (len := 10) (k := 5) C K b5 (by omega) (fun _ => rfl) (by decide) fl_X1_28 rfl rfl (Or.inr (Or.inl rfl)) ac_long (by decide) (by rw [hZ]; exact Nat.le_of_ble_eq_true rfl) (by rw [hZ]; exact Nat.le_of_ble_eq_true rfl) dX1_init_47 dX1_init_49 (fun G6 b6 => ?_)
  refine x_aload_n C dX1_init_52 0 rfl rfl ?_
  refine x_bipush (v := nI 10) C dX1_init_53 (by decide +kernel) ?_
  refine s_arr (len := 10) (k := 6) C K b6 (by omega) (fun _ => rfl) (by decide) fl_X1_31 rfl rfl (Or.inr (Or.inl rfl)) ac_long (by decide) (by rw [hZ]; exact Nat.le_of_ble_eq_true rfl) (by rw [hZ]; exact Nat.le_of_ble_eq_true rfl) dX1_init_55 dX1_init_57 (fun G7 b7 => ?_)
  refine x_aload_n C dX1_init_60 0 rfl rfl ?_
  refine x_bipush (v := nI 10) C dX1_init_61 (by decide +kernel) ?_
  refine s_arr (len := 10) (k := 7) C K b7 (by omega) (fun _ => rfl) (by decide) fl_X1_34 rfl rfl (Or.inr (Or.inl rfl)) ac_long (by decide) (by rw [hZ]; exact Nat.le_of_ble_eq_true rfl) (by rw [hZ]; exact Nat.le_of_ble_eq_true rfl) dX1_init_63 dX1_init_65 (fun G8 b8 => ?_)
  refine x_aload_n C dX1_init_68 0 rfl rfl ?_
  refine x_bipush (v := nI 10) C dX1_init_69 (by decide +kernel) ?_
  refine s_arr (len := 10) (k := 8) C K b8 (by omega) (fun _ => rfl) (by decide) fl_X1_37 rfl rfl (Or.inr (Or.inl rfl)) ac_long (by decide) (by rw [hZ]; exact Nat.le_of_ble_eq_true rfl) (by rw [hZ]; exact Nat.le_of_ble_eq_true rfl) dX1_init_71 dX1_init_73 (fun G9 b9 => ?_)
  refine x_aload_n C dX1_init_76 0 rfl rfl ?_
  refine x_bipush (v := nI 10) C dX1_init_77 (by decide +kernel) ?_
  refine s_arr (len := 10) (k := 9) C K b9 (by omega) (fun _ => rfl) (by decide) fl_X1_40 rfl rfl (Or.inr (Or.inl rfl)) ac_long (by decide) (by rw [hZ]; exact Nat.le_of_ble_eq_true rfl) (by rw [hZ]; exact Nat.le_of_ble_eq_true rfl) dX1_init_79 dX1_init_81 (fun G10 b10 => ?_)
  exact x_vret C E (Nat.le_of_ble_eq_true rfl) (Nat.le_of_ble_eq_true rfl) dX1_init_84 ⟨rfl, b10⟩
set_option maxHeartbeats 4000000 in
set_option maxRecDepth 100000 in
theorem ok_X8_init {l : Launch} {a0 : Nat} {D : va_G} {sa : Nat → Nat} {G : hG} (h n N : Nat) (hN : n + 5 ≤ N) (hh : h < n ∨ N ≤ h) (hT : G.1 h = some (.inr 8)) (hA : a0 ≤ gA G h) (h00 : ∀ j, G.2.1 h j = 0) (F : fre n N G) : hM l a0 D sa yX8_init cX8_init 1 none { frames := 1, cells := 5, slots := 48, locals := 20 } [.ref (gA G h)] G (fun v G' => v = none ∧ blt a0 h n (n + 5) N 5 iv0 [(n, .inl (.long, 5)), (n + 1, .inl (.long, 5)), (n + 2, .inl (.long, 5)), (n + 3, .inl (.int, 17)), (n + 4, .inl (.int, 16))] [(h, 0, n), (h, 1, n + 1), (h, 2, n + 2), (h, 3, n + 3), (h, 4, n + 4)] G G') := by
  refine hM.of (by decide +kernel) (Nat.le_of_ble_eq_true rfl) ?_
  intro z hl h0 hD hS hNn C E
  subst hl; subst h0; subst hD; subst hS
  have C : hC z RX8 cX8_init := C
  have hZ := E.2.2.2.1
  show hX z 0 0 G [(0, .ref (gA G h))] 0 []
  have K : mkr z RX8 G h n N 8 := ⟨E.2.2.1, rfl, hT, hA, h00, F⟩
  have b0 : blt (z0 z) h n n N 0 iv0 [] [] G G := blt.rf hh (by omega)
  refine x_aload_n C dX8_init_0 0 rfl rfl ?_
  refine x_objInit C ml_X8_5 obj_inst obj_code (hrm (rm := { frames := 0, cells := 0, slots := 0, locals := 0 }) hZ ⟨Nat.le_of_ble_eq_true rfl, Nat.le_of_ble_eq_true rfl⟩) dX8_init_1 ?_
  refine x_aload_n C dX8_init_4 0 rfl rfl ?_
  refine x_iconst (v := nI 5) C dX8_init_5 (by decide +kernel) ?_
  refine s_arr (len := 5) (k := 0) C K b0 (by omega) (fun _ => rfl) (by decide) fl_X8_11 rfl rfl (Or.inr (Or.inl rfl)) ac_long (by decide) (by rw [hZ]; exact Nat.le_of_ble_eq_true rfl) (by rw [hZ]; exact Nat.le_of_ble_eq_true rfl) dX8_init_6 dX8_init_8 (fun G1 b1 => ?_)
  refine x_aload_n C dX8_init_11 0 rfl rfl ?_
  refine x_iconst (v := nI 5) C dX8_init_12 (by decide +kernel) ?_
  refine s_arr (len := 5) (k := 1) C K b1 (by omega) (fun _ => rfl) (by decide) fl_X8_15 rfl rfl (Or.inr (Or.inl rfl)) ac_long (by decide) (by rw [hZ]; exact Nat.le_of_ble_eq_true rfl) (by rw [hZ]; exact Nat.le_of_ble_eq_true rfl) dX8_init_13 dX8_init_15 (fun G2 b2 => ?_)
  refine x_aload_n C dX8_init_18 0 rfl rfl ?_
  refine x_iconst (v := nI 5) C dX8_init_19 (by decide +kernel) ?_
  refine s_arr (len := 5) (k := 2) C K b2 (by omega) (fun _ => rfl) (by decide) fl_X8_18 rfl rfl (Or.inr (Or.inl rfl)) ac_long (by decide) (by rw [hZ]; exact Nat.le_of_ble_eq_true rfl) (by rw [hZ]; exact Nat.le_of_ble_eq_true rfl) dX8_init_20 dX8_init_22 (fun G3 b3 => ?_)
  refine x_aload_n C dX8_init_25 0 rfl rfl ?_
  refine x_bipush (v := nI 17) C dX8_init_26 (by decide +kernel) ?_
  refine s_arr (len := 17) (k := 3) C K b3 (by omega) (fun _ => rfl) (by decide) fl_X8_21 rfl rfl (Or.inl rfl) ac_int (by decide) (by rw [hZ]; exact Nat.le_of_ble_eq_true rfl) (by rw [hZ]; exact Nat.le_of_ble_eq_true rfl) dX8_init_28 dX8_init_30 (fun G4 b4 => ?_)
  refine x_aload_n C dX8_init_33 0 rfl rfl ?_
  refine x_bipush (v := nI 16) C dX8_init_34 (by decide +kernel) ?_
  refine s_arr (len := 16) (k := 4) C K b4 (by omega) (fun _ => rfl) (by decide) fl_X8_25 rfl rfl (Or.inl rfl) ac_int (by decide) (by rw [hZ]; exact Nat.le_of_ble_eq_true rfl) (by rw [hZ]; exact Nat.le_of_ble_eq_true rfl) dX8_init_36 dX8_init_38 (fun G5 b5 => ?_)
  exact x_vret C E (Nat.le_of_ble_eq_true rfl) (Nat.le_of_ble_eq_true rfl) dX8_init_41 ⟨rfl, b5⟩
set_option maxHeartbeats 4000000 in
set_option maxRecDepth 100000 in
theorem ok_X0_init {l : Launch} {a0 : Nat} {D : va_G} {sa : Nat → Nat} {G : hG} (h n N : Nat) (hN : n + 10 ≤ N) (hh : h < n ∨ N ≤ h) (hT : G.1 h = some (.inr 0)) (hA : a0 ≤ gA G h) (h00 : ∀ j, G.2.1 h j = 0) (F : fre n N G) : hM l a0 D sa yX0_init cX0_init 1 none { frames := 2, cells := 10, slots := 133, locals := 40 } [.ref (gA G h)] G (fun v G' => v = none ∧ blt a0 h n (n + 10) N 5 iv0 [(n, .inl (.int, 16)), (n + 1, .inl (.int, 16)), (n + 2, .inl (.int, 16)), (n + 3, .inl (.int, 32)), (n + 4, .inr 8), (n + 5, .inl (.long, 5)), (n + 6, .inl (.long, 5)), (n + 7, .inl (.long, 5)), (n + 8, .inl (.int, 17)), (n + 9, .inl (.int, 16))] [(h, 0, n), (h, 1, n + 1), (h, 2, n + 2), (h, 3, n + 3), (n + 4, 0, n + 5), (n + 4, 1, n + 6), (n + 4, 2, n + 7), (n + 4, 3, n + 8), (n + 4, 4, n + 9), (h, 4, n + 4)] G G') := by
  refine hM.of (by decide +kernel) (Nat.le_of_ble_eq_true rfl) ?_
  intro z hl h0 hD hS hNn C E
  subst hl; subst h0; subst hD; subst hS
  have C : hC z RX0 cX0_init := C
  have hZ := E.2.2.2.1
  show hX z 0 0 G [(0, .ref (gA G h))] 0 []
  have K : mkr z RX0 G h n N 0 := ⟨E.2.2.1, rfl, hT, hA, h00, F⟩
  have b0 : blt (z0 z) h n n N 0 iv0 [] [] G G := blt.rf hh (by omega)
  refine x_aload_n C dX0_init_0 0 rfl rfl ?_
  refine x_objInit C ml_X0_3 obj_inst obj_code (hrm (rm := { frames := 0, cells := 0, slots := 0, locals := 0 }) hZ ⟨Nat.le_of_ble_eq_true rfl, Nat.le_of_ble_eq_true rfl⟩) dX0_init_1 ?_
  refine x_aload_n C dX0_init_4 0 rfl rfl ?_
  refine x_bipush (v := nI 16) C dX0_init_5 (by decide +kernel) ?_
  refine s_arr (len := 16) (k := 0) C K b0 (by omega) (fun _ => rfl) (by decide) fl_X0_9 rfl rfl (Or.inl rfl) ac_int (by decide) (by rw [hZ]; exact Nat.le_of_ble_eq_true rfl) (by rw [hZ]; exact Nat.le_of_ble_eq_true rfl) dX0_init_7 dX0_init_9 (fun G1 b1 => ?_)
  refine x_aload_n C dX0_init_12 0 rfl rfl ?_
  refine x_bipush (v := nI 16) C dX0_init_13 (by decide +kernel) ?_
  refine s_arr (len := 16) (k := 1) C K b1 (by omega) (fun _ => rfl) (by decide) fl_X0_15 rfl rfl (Or.inl rfl) ac_int (by decide) (by rw [hZ]; exact Nat.le_of_ble_eq_true rfl) (by rw [hZ]; exact Nat.le_of_ble_eq_true rfl) dX0_init_15 dX0_init_17 (fun G2 b2 => ?_)
  refine x_aload_n C dX0_init_20 0 rfl rfl ?_
  refine x_bipush (v := nI 16) C dX0_init_21 (by decide +kernel) ?_
  refine s_arr (len := 16) (k := 2) C K b2 (by omega) (fun _ => rfl) (by decide) fl_X0_18 rfl rfl (Or.inl rfl) ac_int (by decide) (by rw [hZ]; exact Nat.le_of_ble_eq_true rfl) (by rw [hZ]; exact Nat.le_of_ble_eq_true rfl) dX0_init_23 dX0_init_25 (fun G3 b3 => ?_)
  refine x_aload_n C dX0_init_28 0 rfl rfl ?_
  refine x_bipush (v := nI 32) C dX0_init_29 (by decide +kernel) ?_
  refine s_arr (len := 32) (k := 3) C K b3 (by omega) (fun _ => rfl) (by decide) fl_X0_21 rfl rfl (Or.inl rfl) ac_int (by decide) (by rw [hZ]; exact Nat.le_of_ble_eq_true rfl) (by rw [hZ]; exact Nat.le_of_ble_eq_true rfl) dX0_init_31 dX0_init_33 (fun G4 b4 => ?_)
  refine x_aload_n C dX0_init_36 0 rfl rfl ?_
  refine s_new (cj := 8) C K b4 (by omega) (fun _ => rfl) hc_X8 (by decide +kernel) cl_X0_24 it_X8 ini_X8 (by rw [hZ]; exact Nat.le_of_ble_eq_true rfl) (by rw [hZ]; exact Nat.le_of_ble_eq_true rfl) dX0_init_37 (fun G5 b5 k5 => ?_)
  refine x_dup C dX0_init_40 rfl ?_
  refine x_callIN C (ok_X8_init (n + 4) (n + 5) N (by omega) (by omega) k5.1 k5.2.1 k5.2.2.1 k5.2.2.2) mi_X8_init ml_X0_26 rfl rfl (Nat.le_of_ble_eq_true rfl) (hrm (rm := { frames := 0, cells := 0, slots := 0, locals := 0 }) hZ ⟨Nat.le_of_ble_eq_true rfl, Nat.le_of_ble_eq_true rfl⟩) (hcs hZ ⟨Nat.le_of_ble_eq_true rfl, Nat.le_of_ble_eq_true rfl⟩) dX0_init_41 (fun v G' hp => ?_)
  obtain ⟨rfl, c5⟩ := hp
  refine s_fin (k := 4) C K b4 b5 (by omega) c5 (by decide) fl_X0_27 rfl rfl dX0_init_44 (fun G50 b50 => ?_)
  exact x_vret C E (Nat.le_of_ble_eq_true rfl) (Nat.le_of_ble_eq_true rfl) dX0_init_47 ⟨rfl, b50⟩
set_option maxHeartbeats 4000000 in
set_option maxRecDepth 100000 in
theorem ok_X7_init {l : Launch} {a0 : Nat} {D : va_G} {sa : Nat → Nat} {G : hG} (h n N : Nat) (hN : n + 7 ≤ N) (hh : h < n ∨ N ≤ h) (hT : G.1 h = some (.inr 7)) (hA : a0 ≤ gA G h) (h00 : ∀ j, G.2.1 h j = 0) (F : fre n N G) : hM l a0 D sa yX7_init cX7_init 1 none { frames := 1, cells := 7, slots := 224, locals := 20 } [.ref (gA G h)] G (fun v G' => v = none ∧ blt a0 h n (n + 7) N 7 iv0 [(n, .inl (.int, 32)), (n + 1, .inl (.int, 32)), (n + 2, .inl (.int, 32)), (n + 3, .inl (.int, 32)), (n + 4, .inl (.int, 32)), (n + 5, .inl (.int, 32)), (n + 6, .inl (.int, 32))] [(h, 0, n), (h, 1, n + 1), (h, 2, n + 2), (h, 3, n + 3), (h, 4, n + 4), (h, 5, n + 5), (h, 6, n + 6)] G G') := by
  refine hM.of (by decide +kernel) (Nat.le_of_ble_eq_true rfl) ?_
  intro z hl h0 hD hS hNn C E
  subst hl; subst h0; subst hD; subst hS
  have C : hC z RX7 cX7_init := C
  have hZ := E.2.2.2.1
  show hX z 0 0 G [(0, .ref (gA G h))] 0 []
  have K : mkr z RX7 G h n N 7 := ⟨E.2.2.1, rfl, hT, hA, h00, F⟩
  have b0 : blt (z0 z) h n n N 0 iv0 [] [] G G := blt.rf hh (by omega)
  refine x_aload_n C dX7_init_0 0 rfl rfl ?_
  refine x_objInit C ml_X7_3 obj_inst obj_code (hrm (rm := { frames := 0, cells := 0, slots := 0, locals := 0 }) hZ ⟨Nat.le_of_ble_eq_true rfl, Nat.le_of_ble_eq_true rfl⟩) dX7_init_1 ?_
  refine x_aload_n C dX7_init_4 0 rfl rfl ?_
  refine x_bipush (v := nI 32) C dX7_init_5 (by decide +kernel) ?_
  refine s_arr (len := 32) (k := 0) C K b0 (by omega) (fun _ => rfl) (by decide) fl_X7_9 rfl rfl (Or.inl rfl) ac_int (by decide) (by rw [hZ]; exact Nat.le_of_ble_eq_true rfl) (by rw [hZ]; exact Nat.le_of_ble_eq_true rfl) dX7_init_7 dX7_init_9 (fun G1 b1 => ?_)
  refine x_aload_n C dX7_init_12 0 rfl rfl ?_
  refine x_bipush (v := nI 32) C dX7_init_13 (by decide +kernel) ?_
  refine s_arr (len := 32) (k := 1) C K b1 (by omega) (fun _ => rfl) (by decide) fl_X7_15 rfl rfl (Or.inl rfl) ac_int (by decide) (by rw [hZ]; exact Nat.le_of_ble_eq_true rfl) (by rw [hZ]; exact Nat.le_of_ble_eq_true rfl) dX7_init_15 dX7_init_17 (fun G2 b2 => ?_)
  refine x_aload_n C dX7_init_20 0 rfl rfl ?_
  refine x_bipush (v := nI 32) C dX7_init_21 (by decide +kernel) ?_
  refine s_arr (len := 32) (k := 2) C K b2 (by omega) (fun _ => rfl) (by decide) fl_X7_18 rfl rfl (Or.inl rfl) ac_int (by decide) (by rw [hZ]; exact Nat.le_of_ble_eq_true rfl) (by rw [hZ]; exact Nat.le_of_ble_eq_true rfl) dX7_init_23 dX7_init_25 (fun G3 b3 => ?_)
  refine x_aload_n C dX7_init_28 0 rfl rfl ?_
  refine x_bipush (v := nI 32) C dX7_init_29 (by decide +kernel) ?_
  refine s_arr (len := 32) (k := 3) C K b3 (by omega) (fun _ => rfl) (by decide) fl_X7_21 rfl rfl (Or.inl rfl) ac_int (by decide) (by rw [hZ]; exact Nat.le_of_ble_eq_true rfl) (by rw [hZ]; exact Nat.le_of_ble_eq_true rfl) dX7_init_31 dX7_init_33 (fun G4 b4 => ?_)
  refine x_aload_n C dX7_init_36 0 rfl rfl ?_
  refine x_bipush (v := nI 32) C dX7_init_37 (by decide +kernel) ?_
  refine s_arr (len := 32) (k := 4) C K b4 (by omega) (fun _ => rfl) (by decide) fl_X7_24 rfl rfl (Or.inl rfl) ac_int (by decide) (by rw [hZ]; exact Nat.le_of_ble_eq_true rfl) (by rw [hZ]; exact Nat.le_of_ble_eq_true rfl) dX7_init_39 dX7_init_41 (fun G5 b5 => ?_)
  refine x_aload_n C dX7_init_44 0 rfl rfl ?_
  refine x_bipush (v := nI 32) C dX7_init_45 (by decide +kernel) ?_
  refine s_arr (len := 32) (k := 5) C K b5 (by omega) (fun _ => rfl) (by decide) fl_X7_27 rfl rfl (Or.inl rfl) ac_int (by decide) (by rw [hZ]; exact Nat.le_of_ble_eq_true rfl) (by rw [hZ]; exact Nat.le_of_ble_eq_true rfl) dX7_init_47 dX7_init_49 (fun G6 b6 => ?_)
  refine x_aload_n C dX7_init_52 0 rfl rfl ?_
  refine x_bipush (v := nI 32) C dX7_init_53 (by decide +kernel) ?_
  refine s_arr (len := 32) (k := 6) C K b6 (by omega) (fun _ => rfl) (by decide) fl_X7_30 rfl rfl (Or.inl rfl) ac_int (by decide) (by rw [hZ]; exact Nat.le_of_ble_eq_true rfl) (by rw [hZ]; exact Nat.le_of_ble_eq_true rfl) dX7_init_55 dX7_init_57 (fun G7 b7 => ?_)
  refine x_aload_n C dX7_init_60 0 rfl rfl ?_
  refine x_iconst (v := nI 0) C dX7_init_61 (by decide +kernel) ?_
  refine s_put0 C K b7 fl_X7_33 (Or.inr rfl) dX7_init_62 ?_
  refine x_aload_n C dX7_init_65 0 rfl rfl ?_
  refine x_iconst (v := nI 0) C dX7_init_66 (by decide +kernel) ?_
  refine s_put0 C K b7 fl_X7_37 (Or.inr rfl) dX7_init_67 ?_
  refine x_aload_n C dX7_init_70 0 rfl rfl ?_
  refine x_iconst (v := nI 0) C dX7_init_71 (by decide +kernel) ?_
  refine s_put0 C K b7 fl_X7_40 (Or.inr rfl) dX7_init_72 ?_
  refine x_aload_n C dX7_init_75 0 rfl rfl ?_
  refine x_iconst (v := nI 0) C dX7_init_76 (by decide +kernel) ?_
  refine s_put0 C K b7 fl_X7_43 (Or.inl rfl) dX7_init_77 ?_
  refine x_aload_n C dX7_init_80 0 rfl rfl ?_
  refine x_iconst (v := nI 0) C dX7_init_81 (by decide +kernel) ?_
  refine s_put0 C K b7 fl_X7_47 (Or.inl rfl) dX7_init_82 ?_
  refine x_aload_n C dX7_init_85 0 rfl rfl ?_
  refine x_iconst (v := nI 0) C dX7_init_86 (by decide +kernel) ?_
  refine s_put0 C K b7 fl_X7_50 (Or.inl rfl) dX7_init_87 ?_
  refine x_aload_n C dX7_init_90 0 rfl rfl ?_
  refine x_iconst (v := nI 0) C dX7_init_91 (by decide +kernel) ?_
  refine s_put0 C K b7 fl_X7_53 (Or.inl rfl) dX7_init_92 ?_
  exact x_vret C E (Nat.le_of_ble_eq_true rfl) (Nat.le_of_ble_eq_true rfl) dX7_init_95 ⟨rfl, b7⟩
set_option maxHeartbeats 4000000 in
set_option maxRecDepth 100000 in
theorem ok_X9_init {l : Launch} {a0 : Nat} {D : va_G} {sa : Nat → Nat} {G : hG} (h n N : Nat) (hN : n + 44 ≤ N) (hh : h < n ∨ N ≤ h) (hT : G.1 h = some (.inr 9)) (hA : a0 ≤ gA G h) (h00 : ∀ j, G.2.1 h j = 0) (F : fre n N G) : hM l a0 D sa yX9_init cX9_init 1 none { frames := 3, cells := 44, slots := 859, locals := 60 } [.ref (gA G h)] G (fun v G' => v = none ∧ blt a0 h n (n + 44) N 8 iv0 [(n, .inr 5), (n + 1, .inl (.int, 8)), (n + 2, .inl (.int, 64)), (n + 3, .inr 2), (n + 4, .inr 5), (n + 5, .inl (.int, 8)), (n + 6, .inl (.int, 64)), (n + 7, .inl (.int, 32)), (n + 8, .inl (.int, 32)), (n + 9, .inl (.int, 33)), (n + 10, .inr 1), (n + 11, .inl (.int, 32)), (n + 12, .inl (.long, 10)), (n + 13, .inl (.long, 10)), (n + 14, .inl (.long, 10)), (n + 15, .inl (.long, 10)), (n + 16, .inl (.long, 10)), (n + 17, .inl (.long, 10)), (n + 18, .inl (.long, 10)), (n + 19, .inl (.long, 10)), (n + 20, .inl (.long, 10)), (n + 21, .inr 0), (n + 22, .inl (.int, 16)), (n + 23, .inl (.int, 16)), (n + 24, .inl (.int, 16)), (n + 25, .inl (.int, 32)), (n + 26, .inr 8), (n + 27, .inl (.long, 5)), (n + 28, .inl (.long, 5)), (n + 29, .inl (.long, 5)), (n + 30, .inl (.int, 17)), (n + 31, .inl (.int, 16)), (n + 32, .inr 7), (n + 33, .inl (.int, 32)), (n + 34, .inl (.int, 32)), (n + 35, .inl (.int, 32)), (n + 36, .inl (.int, 32)), (n + 37, .inl (.int, 32)), (n + 38, .inl (.int, 32)), (n + 39, .inl (.int, 32)), (n + 40, .inl (.int, 32)), (n + 41, .inl (.int, 32)), (n + 42, .inr 4), (n + 43, .inl (.int, 32))] [(n, 0, n + 1), (n, 1, n + 2), (h, 0, n), (n + 4, 0, n + 5), (n + 4, 1, n + 6), (n + 3, 0, n + 4), (n + 3, 1, n + 7), (n + 3, 2, n + 8), (n + 3, 3, n + 9), (h, 1, n + 3), (n + 10, 0, n + 11), (n + 10, 1, n + 12), (n + 10, 2, n + 13), (n + 10, 3, n + 14), (n + 10, 4, n + 15), (n + 10, 5, n + 16), (n + 10, 6, n + 17), (n + 10, 7, n + 18), (n + 10, 8, n + 19), (n + 10, 9, n + 20), (h, 2, n + 10), (n + 21, 0, n + 22), (n + 21, 1, n + 23), (n + 21, 2, n + 24), (n + 21, 3, n + 25), (n + 26, 0, n + 27), (n + 26, 1, n + 28), (n + 26, 2, n + 29), (n + 26, 3, n + 30), (n + 26, 4, n + 31), (n + 21, 4, n + 26), (h, 3, n + 21), (n + 32, 0, n + 33), (n + 32, 1, n + 34), (n + 32, 2, n + 35), (n + 32, 3, n + 36), (n + 32, 4, n + 37), (n + 32, 5, n + 38), (n + 32, 6, n + 39), (h, 4, n + 32), (h, 5, n + 40), (h, 6, n + 41), (n + 42, 0, n + 43), (h, 7, n + 42)] G G') := by
  refine hM.of (by decide +kernel) (Nat.le_of_ble_eq_true rfl) ?_
  intro z hl h0 hD hS hNn C E
  subst hl; subst h0; subst hD; subst hS
  have C : hC z RX9 cX9_init := C
  have hZ := E.2.2.2.1
  show hX z 0 0 G [(0, .ref (gA G h))] 0 []
  have K : mkr z RX9 G h n N 9 := ⟨E.2.2.1, rfl, hT, hA, h00, F⟩
  have b0 : blt (z0 z) h n n N 0 iv0 [] [] G G := blt.rf hh (by omega)
  refine x_aload_n C dX9_init_0 0 rfl rfl ?_
  refine x_objInit C ml_X9_3 obj_inst obj_code (hrm (rm := { frames := 0, cells := 0, slots := 0, locals := 0 }) hZ ⟨Nat.le_of_ble_eq_true rfl, Nat.le_of_ble_eq_true rfl⟩) dX9_init_1 ?_
  refine x_aload_n C dX9_init_4 0 rfl rfl ?_
  refine s_new (cj := 5) C K b0 (by omega) (fun _ => rfl) hc_X5 (by decide +kernel) cl_X9_9 it_X5 ini_X5 (by rw [hZ]; exact Nat.le_of_ble_eq_true rfl) (by rw [hZ]; exact Nat.le_of_ble_eq_true rfl) dX9_init_5 (fun G1 b1 k1 => ?_)
  refine x_dup C dX9_init_8 rfl ?_
  refine x_callIN C (ok_X5_init (n) (n + 1) N (by omega) (by omega) k1.1 k1.2.1 k1.2.2.1 k1.2.2.2) mi_X5_init ml_X9_11 rfl rfl (Nat.le_of_ble_eq_true rfl) (hrm (rm := { frames := 0, cells := 0, slots := 0, locals := 0 }) hZ ⟨Nat.le_of_ble_eq_true rfl, Nat.le_of_ble_eq_true rfl⟩) (hcs hZ ⟨Nat.le_of_ble_eq_true rfl, Nat.le_of_ble_eq_true rfl⟩) dX9_init_9 (fun v G' hp => ?_)
  obtain ⟨rfl, c1⟩ := hp
  refine s_fin (k := 0) C K b0 b1 (by omega) c1 (by decide) fl_X9_12 rfl rfl dX9_init_12 (fun G10 b10 => ?_)
  refine x_aload_n C dX9_init_15 0 rfl rfl ?_
  refine s_new (cj := 2) C K b10 (by omega) (fun _ => rfl) hc_X2 (by decide +kernel) cl_X9_18 it_X2 ini_X2 (by rw [hZ]; exact Nat.le_of_ble_eq_true rfl) (by rw [hZ]; exact Nat.le_of_ble_eq_true rfl) dX9_init_16 (fun G2 b2 k2 => ?_)
  refine x_dup C dX9_init_19 rfl ?_
  refine x_callIN C (ok_X2_init (n + 3) (n + 4) N (by omega) (by omega) k2.1 k2.2.1 k2.2.2.1 k2.2.2.2) mi_X2_init ml_X9_20 rfl rfl (Nat.le_of_ble_eq_true rfl) (hrm (rm := { frames := 0, cells := 0, slots := 0, locals := 0 }) hZ ⟨Nat.le_of_ble_eq_true rfl, Nat.le_of_ble_eq_true rfl⟩) (hcs hZ ⟨Nat.le_of_ble_eq_true rfl, Nat.le_of_ble_eq_true rfl⟩) dX9_init_20 (fun v G' hp => ?_)
  obtain ⟨rfl, c2⟩ := hp
  refine s_fin (k := 1) C K b10 b2 (by omega) c2 (by decide) fl_X9_21 rfl rfl dX9_init_23 (fun G20 b20 => ?_)
  refine x_aload_n C dX9_init_26 0 rfl rfl ?_
  refine s_new (cj := 1) C K b20 (by omega) (fun _ => rfl) hc_X1 (by decide +kernel) cl_X9_25 it_X1 ini_X1 (by rw [hZ]; exact Nat.le_of_ble_eq_true rfl) (by rw [hZ]; exact Nat.le_of_ble_eq_true rfl) dX9_init_27 (fun G3 b3 k3 => ?_)
  refine x_dup C dX9_init_30 rfl ?_
  refine x_callIN C (ok_X1_init (n + 10) (n + 11) N (by omega) (by omega) k3.1 k3.2.1 k3.2.2.1 k3.2.2.2) mi_X1_init ml_X9_27 rfl rfl (Nat.le_of_ble_eq_true rfl) (hrm (rm := { frames := 0, cells := 0, slots := 0, locals := 0 }) hZ ⟨Nat.le_of_ble_eq_true rfl, Nat.le_of_ble_eq_true rfl⟩) (hcs hZ ⟨Nat.le_of_ble_eq_true rfl, Nat.le_of_ble_eq_true rfl⟩) dX9_init_31 (fun v G' hp => ?_)
  obtain ⟨rfl, c3⟩ := hp
  refine s_fin (k := 2) C K b20 b3 (by omega) c3 (by decide) fl_X9_28 rfl rfl dX9_init_34 (fun G30 b30 => ?_)
  refine x_aload_n C dX9_init_37 0 rfl rfl ?_
  refine s_new (cj := 0) C K b30 (by omega) (fun _ => rfl) hc_X0 (by decide +kernel) cl_X9_32 it_X0 ini_X0 (by rw [hZ]; exact Nat.le_of_ble_eq_true rfl) (by rw [hZ]; exact Nat.le_of_ble_eq_true rfl) dX9_init_38 (fun G4 b4 k4 => ?_)
  refine x_dup C dX9_init_41 rfl ?_
  refine x_callIN C (ok_X0_init (n + 21) (n + 22) N (by omega) (by omega) k4.1 k4.2.1 k4.2.2.1 k4.2.2.2) mi_X0_init ml_X9_34 rfl rfl (Nat.le_of_ble_eq_true rfl) (hrm (rm := { frames := 0, cells := 0, slots := 0, locals := 0 }) hZ ⟨Nat.le_of_ble_eq_true rfl, Nat.le_of_ble_eq_true rfl⟩) (hcs hZ ⟨Nat.le_of_ble_eq_true rfl, Nat.le_of_ble_eq_true rfl⟩) dX9_init_42 (fun v G' hp => ?_)
  obtain ⟨rfl, c4⟩ := hp
  refine s_fin (k := 3) C K b30 b4 (by omega) c4 (by decide) fl_X9_35 rfl rfl dX9_init_45 (fun G40 b40 => ?_)
  refine x_aload_n C dX9_init_48 0 rfl rfl ?_
  refine s_new (cj := 7) C K b40 (by omega) (fun _ => rfl) hc_X7 (by decide +kernel) cl_X9_39 it_X7 ini_X7 (by rw [hZ]; exact Nat.le_of_ble_eq_true rfl) (by rw [hZ]; exact Nat.le_of_ble_eq_true rfl) dX9_init_49 (fun G5 b5 k5 => ?_)
  refine x_dup C dX9_init_52 rfl ?_
  refine x_callIN C (ok_X7_init (n + 32) (n + 33) N (by omega) (by omega) k5.1 k5.2.1 k5.2.2.1 k5.2.2.2) mi_X7_init ml_X9_41 rfl rfl (Nat.le_of_ble_eq_true rfl) (hrm (rm := { frames := 0, cells := 0, slots := 0, locals := 0 }) hZ ⟨Nat.le_of_ble_eq_true rfl, Nat.le_of_ble_eq_true rfl⟩) (hcs hZ ⟨Nat.le_of_ble_eq_true rfl, Nat.le_of_ble_eq_true rfl⟩) dX9_init_53 (fun v G' hp => ?_)
  obtain ⟨rfl, c5⟩ := hp
  refine s_fin (k := 4) C K b40 b5 (by omega) c5 (by decide) fl_X9_42 rfl rfl dX9_init_56 (fun G50 b50 => ?_)
  refine x_aload_n C dX9_init_59 0 rfl rfl ?_
  refine x_bipush (v := nI 32) C dX9_init_60 (by decide +kernel) ?_
  refine s_arr (len := 32) (k := 5) C K b50 (by omega) (fun _ => rfl) (by decide) fl_X9_46 rfl rfl (Or.inl rfl) ac_int (by decide) (by rw [hZ]; exact Nat.le_of_ble_eq_true rfl) (by rw [hZ]; exact Nat.le_of_ble_eq_true rfl) dX9_init_62 dX9_init_64 (fun G6 b6 => ?_)
  refine x_aload_n C dX9_init_67 0 rfl rfl ?_
  refine x_bipush (v := nI 32) C dX9_init_68 (by decide +kernel) ?_
  refine s_arr (len := 32) (k := 6) C K b6 (by omega) (fun _ => rfl) (by decide) fl_X9_50 rfl rfl (Or.inl rfl) ac_int (by decide) (by rw [hZ]; exact Nat.le_of_ble_eq_true rfl) (by rw [hZ]; exact Nat.le_of_ble_eq_true rfl) dX9_init_70 dX9_init_72 (fun G7 b7 => ?_)
  refine x_aload_n C dX9_init_75 0 rfl rfl ?_
  refine s_new (cj := 4) C K b7 (by omega) (fun _ => rfl) hc_X4 (by decide +kernel) cl_X9_53 it_X4 ini_X4 (by rw [hZ]; exact Nat.le_of_ble_eq_true rfl) (by rw [hZ]; exact Nat.le_of_ble_eq_true rfl) dX9_init_76 (fun G8 b8 k8 => ?_)
  refine x_dup C dX9_init_79 rfl ?_
  refine x_bipush (v := nI 32) C dX9_init_80 (by decide +kernel) ?_
  refine x_callI C (ok_X4_init (n + 42) (n + 43) N 32 (by decide) (by omega) (by omega) k8.1 k8.2.1 k8.2.2.1 k8.2.2.2) mi_X4_init ml_X9_55 rfl rfl (Nat.le_of_ble_eq_true rfl) (hrm (rm := { frames := 0, cells := 0, slots := 0, locals := 0 }) hZ ⟨Nat.le_of_ble_eq_true rfl, Nat.le_of_ble_eq_true rfl⟩) (hcs hZ ⟨Nat.le_of_ble_eq_true rfl, Nat.le_of_ble_eq_true rfl⟩) dX9_init_82 (fun v G' hp => ?_)
  obtain ⟨rfl, c8⟩ := hp
  refine s_fin (k := 7) C K b7 b8 (by omega) c8 (by decide) fl_X9_58 rfl rfl dX9_init_85 (fun G80 b80 => ?_)
  exact x_vret C E (Nat.le_of_ble_eq_true rfl) (Nat.le_of_ble_eq_true rfl) dX9_init_88 ⟨rfl, b80⟩
set_option maxHeartbeats 4000000 in
set_option maxRecDepth 100000 in
theorem ok_X10_init {l : Launch} {a0 : Nat} {D : va_G} {sa : Nat → Nat} {G : hG} (h n N : Nat) (hN : n + 55 ≤ N) (hh : h < n ∨ N ≤ h) (hT : G.1 h = some (.inr 10)) (hA : a0 ≤ gA G h) (h00 : ∀ j, G.2.1 h j = 0) (F : fre n N G) : hM l a0 D sa yX10_init cX10_init 1 none { frames := 4, cells := 54, slots := 1301, locals := 80 } [.ref (gA G h)] G (fun v G' => v = none ∧ blt a0 h n (n + 55) N 7 iv0 [(n, .inl (.object "StepShake$Pattern", 8)), (n + 1, .inl (.object "StepShake$Side", 4)), (n + 2, .inr 4), (n + 3, .inl (.int, 64)), (n + 4, .inr 4), (n + 5, .inl (.int, 160)), (n + 6, .inr 4), (n + 7, .inl (.int, 160)), (n + 8, .inr 9), (n + 10, .inr 5), (n + 11, .inl (.int, 8)), (n + 12, .inl (.int, 64)), (n + 13, .inr 2), (n + 14, .inr 5), (n + 15, .inl (.int, 8)), (n + 16, .inl (.int, 64)), (n + 17, .inl (.int, 32)), (n + 18, .inl (.int, 32)), (n + 19, .inl (.int, 33)), (n + 20, .inr 1), (n + 21, .inl (.int, 32)), (n + 22, .inl (.long, 10)), (n + 23, .inl (.long, 10)), (n + 24, .inl (.long, 10)), (n + 25, .inl (.long, 10)), (n + 26, .inl (.long, 10)), (n + 27, .inl (.long, 10)), (n + 28, .inl (.long, 10)), (n + 29, .inl (.long, 10)), (n + 30, .inl (.long, 10)), (n + 31, .inr 0), (n + 32, .inl (.int, 16)), (n + 33, .inl (.int, 16)), (n + 34, .inl (.int, 16)), (n + 35, .inl (.int, 32)), (n + 36, .inr 8), (n + 37, .inl (.long, 5)), (n + 38, .inl (.long, 5)), (n + 39, .inl (.long, 5)), (n + 40, .inl (.int, 17)), (n + 41, .inl (.int, 16)), (n + 42, .inr 7), (n + 43, .inl (.int, 32)), (n + 44, .inl (.int, 32)), (n + 45, .inl (.int, 32)), (n + 46, .inl (.int, 32)), (n + 47, .inl (.int, 32)), (n + 48, .inl (.int, 32)), (n + 49, .inl (.int, 32)), (n + 50, .inl (.int, 32)), (n + 51, .inl (.int, 32)), (n + 52, .inr 4), (n + 53, .inl (.int, 32)), (n + 54, .inl (.int, 32))] [(h, 0, n), (h, 1, n + 1), (n + 2, 0, n + 3), (h, 2, n + 2), (n + 4, 0, n + 5), (h, 3, n + 4), (n + 6, 0, n + 7), (h, 4, n + 6), (n + 10, 0, n + 11), (n + 10, 1, n + 12), (n + 8, 0, n + 10), (n + 14, 0, n + 15), (n + 14, 1, n + 16), (n + 13, 0, n + 14), (n + 13, 1, n + 17), (n + 13, 2, n + 18), (n + 13, 3, n + 19), (n + 8, 1, n + 13), (n + 20, 0, n + 21), (n + 20, 1, n + 22), (n + 20, 2, n + 23), (n + 20, 3, n + 24), (n + 20, 4, n + 25), (n + 20, 5, n + 26), (n + 20, 6, n + 27), (n + 20, 7, n + 28), (n + 20, 8, n + 29), (n + 20, 9, n + 30), (n + 8, 2, n + 20), (n + 31, 0, n + 32), (n + 31, 1, n + 33), (n + 31, 2, n + 34), (n + 31, 3, n + 35), (n + 36, 0, n + 37), (n + 36, 1, n + 38), (n + 36, 2, n + 39), (n + 36, 3, n + 40), (n + 36, 4, n + 41), (n + 31, 4, n + 36), (n + 8, 3, n + 31), (n + 42, 0, n + 43), (n + 42, 1, n + 44), (n + 42, 2, n + 45), (n + 42, 3, n + 46), (n + 42, 4, n + 47), (n + 42, 5, n + 48), (n + 42, 6, n + 49), (n + 8, 4, n + 42), (n + 8, 5, n + 50), (n + 8, 6, n + 51), (n + 52, 0, n + 53), (n + 8, 7, n + 52), (h, 5, n + 8), (h, 6, n + 54)] G G') := by
  refine hM.of (by decide +kernel) (Nat.le_of_ble_eq_true rfl) ?_
  intro z hl h0 hD hS hNn C E
  subst hl; subst h0; subst hD; subst hS
  have C : hC z RX10 cX10_init := C
  have hZ := E.2.2.2.1
  show hX z 0 0 G [(0, .ref (gA G h))] 0 []
  have K : mkr z RX10 G h n N 10 := ⟨E.2.2.1, rfl, hT, hA, h00, F⟩
  have b0 : blt (z0 z) h n n N 0 iv0 [] [] G G := blt.rf hh (by omega)
  refine x_aload_n C dX10_init_0 0 rfl rfl ?_
  refine x_objInit C ml_X10_3 obj_inst obj_code (hrm (rm := { frames := 0, cells := 0, slots := 0, locals := 0 }) hZ ⟨Nat.le_of_ble_eq_true rfl, Nat.le_of_ble_eq_true rfl⟩) dX10_init_1 ?_
  refine x_aload_n C dX10_init_4 0 rfl rfl ?_
  refine x_bipush (v := nI 8) C dX10_init_5 (by decide +kernel) ?_
  refine s_ano (len := 8) (k := 0) (Cn := "StepShake$Pattern") C K b0 (by omega) (fun _ => rfl) (by decide) fl_X10_11 rfl rfl cl_X10_9 (by decide +kernel) (by decide) (by rw [hZ]; exact Nat.le_of_ble_eq_true rfl) (by rw [hZ]; exact Nat.le_of_ble_eq_true rfl) dX10_init_7 dX10_init_10 (fun G1 b1 => ?_)
  refine x_aload_n C dX10_init_13 0 rfl rfl ?_
  refine x_iconst (v := nI 4) C dX10_init_14 (by decide +kernel) ?_
  refine s_ano (len := 4) (k := 1) (Cn := "StepShake$Side") C K b1 (by omega) (fun _ => rfl) (by decide) fl_X10_17 rfl rfl cl_X10_15 (by decide +kernel) (by decide) (by rw [hZ]; exact Nat.le_of_ble_eq_true rfl) (by rw [hZ]; exact Nat.le_of_ble_eq_true rfl) dX10_init_15 dX10_init_18 (fun G2 b2 => ?_)
  refine x_aload_n C dX10_init_21 0 rfl rfl ?_
  refine s_new (cj := 4) C K b2 (by omega) (fun _ => rfl) hc_X4 (by decide +kernel) cl_X10_21 it_X4 ini_X4 (by rw [hZ]; exact Nat.le_of_ble_eq_true rfl) (by rw [hZ]; exact Nat.le_of_ble_eq_true rfl) dX10_init_22 (fun G3 b3 k3 => ?_)
  refine x_dup C dX10_init_25 rfl ?_
  refine x_bipush (v := nI 64) C dX10_init_26 (by decide +kernel) ?_
  refine x_callI C (ok_X4_init (n + 2) (n + 3) N 64 (by decide) (by omega) (by omega) k3.1 k3.2.1 k3.2.2.1 k3.2.2.2) mi_X4_init ml_X10_23 rfl rfl (Nat.le_of_ble_eq_true rfl) (hrm (rm := { frames := 0, cells := 0, slots := 0, locals := 0 }) hZ ⟨Nat.le_of_ble_eq_true rfl, Nat.le_of_ble_eq_true rfl⟩) (hcs hZ ⟨Nat.le_of_ble_eq_true rfl, Nat.le_of_ble_eq_true rfl⟩) dX10_init_28 (fun v G' hp => ?_)
  obtain ⟨rfl, c3⟩ := hp
  refine s_fin (k := 2) C K b2 b3 (by omega) c3 (by decide) fl_X10_26 rfl rfl dX10_init_31 (fun G30 b30 => ?_)
  refine x_aload_n C dX10_init_34 0 rfl rfl ?_
  refine s_new (cj := 4) C K b30 (by omega) (fun _ => rfl) hc_X4 (by decide +kernel) cl_X10_21 it_X4 ini_X4 (by rw [hZ]; exact Nat.le_of_ble_eq_true rfl) (by rw [hZ]; exact Nat.le_of_ble_eq_true rfl) dX10_init_35 (fun G4 b4 k4 => ?_)
  refine x_dup C dX10_init_38 rfl ?_
  refine x_sipush (v := nI 160) C dX10_init_39 (by decide +kernel) ?_
  refine x_callI C (ok_X4_init (n + 4) (n + 5) N 160 (by decide) (by omega) (by omega) k4.1 k4.2.1 k4.2.2.1 k4.2.2.2) mi_X4_init ml_X10_23 rfl rfl (Nat.le_of_ble_eq_true rfl) (hrm (rm := { frames := 0, cells := 0, slots := 0, locals := 0 }) hZ ⟨Nat.le_of_ble_eq_true rfl, Nat.le_of_ble_eq_true rfl⟩) (hcs hZ ⟨Nat.le_of_ble_eq_true rfl, Nat.le_of_ble_eq_true rfl⟩) dX10_init_42 (fun v G' hp => ?_)
  obtain ⟨rfl, c4⟩ := hp
  refine s_fin (k := 3) C K b30 b4 (by omega) c4 (by decide) fl_X10_30 rfl rfl dX10_init_45 (fun G40 b40 => ?_)
  refine x_aload_n C dX10_init_48 0 rfl rfl ?_
  refine s_new (cj := 4) C K b40 (by omega) (fun _ => rfl) hc_X4 (by decide +kernel) cl_X10_21 it_X4 ini_X4 (by rw [hZ]; exact Nat.le_of_ble_eq_true rfl) (by rw [hZ]; exact Nat.le_of_ble_eq_true rfl) dX10_init_49 (fun G5 b5 k5 => ?_)
  refine x_dup C dX10_init_52 rfl ?_
  refine x_sipush (v := nI 160) C dX10_init_53 (by decide +kernel) ?_
  refine x_callI C (ok_X4_init (n + 6) (n + 7) N 160 (by decide) (by omega) (by omega) k5.1 k5.2.1 k5.2.2.1 k5.2.2.2) mi_X4_init ml_X10_23 rfl rfl (Nat.le_of_ble_eq_true rfl) (hrm (rm := { frames := 0, cells := 0, slots := 0, locals := 0 }) hZ ⟨Nat.le_of_ble_eq_true rfl, Nat.le_of_ble_eq_true rfl⟩) (hcs hZ ⟨Nat.le_of_ble_eq_true rfl, Nat.le_of_ble_eq_true rfl⟩) dX10_init_56 (fun v G' hp => ?_)
  obtain ⟨rfl, c5⟩ := hp
  refine s_fin (k := 4) C K b40 b5 (by omega) c5 (by decide) fl_X10_33 rfl rfl dX10_init_59 (fun G50 b50 => ?_)
  refine x_aload_n C dX10_init_62 0 rfl rfl ?_
  refine s_new (cj := 9) C K b50 (by omega) (fun _ => rfl) hc_X9 (by decide +kernel) cl_X10_36 it_X9 ini_X9 (by rw [hZ]; exact Nat.le_of_ble_eq_true rfl) (by rw [hZ]; exact Nat.le_of_ble_eq_true rfl) dX10_init_63 (fun G6 b6 k6 => ?_)
  refine x_dup C dX10_init_66 rfl ?_
  have b6s := b6.skip (by omega)
  refine x_callIN C (ok_X9_init (n + 8) (n + 10) N (by omega) (by omega) k6.1 k6.2.1 k6.2.2.1 (fun q q1 q2 => k6.2.2.2 q (by omega) q2)) mi_X9_init ml_X10_38 rfl rfl (Nat.le_of_ble_eq_true rfl) (hrm (rm := { frames := 0, cells := 0, slots := 0, locals := 0 }) hZ ⟨Nat.le_of_ble_eq_true rfl, Nat.le_of_ble_eq_true rfl⟩) (hcs hZ ⟨Nat.le_of_ble_eq_true rfl, Nat.le_of_ble_eq_true rfl⟩) dX10_init_67 (fun v G' hp => ?_)
  obtain ⟨rfl, c6⟩ := hp
  refine s_fin (k := 5) C K b50 b6s (by omega) c6 (by decide) fl_X10_39 rfl rfl dX10_init_70 (fun G60 b60 => ?_)
  refine x_aload_n C dX10_init_73 0 rfl rfl ?_
  refine x_bipush (v := nI 32) C dX10_init_74 (by decide +kernel) ?_
  refine s_arr (len := 32) (k := 6) C K b60 (by omega) (fun _ => rfl) (by decide) fl_X10_43 rfl rfl (Or.inl rfl) ac_int (by decide) (by rw [hZ]; exact Nat.le_of_ble_eq_true rfl) (by rw [hZ]; exact Nat.le_of_ble_eq_true rfl) dX10_init_76 dX10_init_78 (fun G7 b7 => ?_)
  refine x_aload_n C dX10_init_81 0 rfl rfl ?_
  refine x_iconst (v := nI 0) C dX10_init_82 (by decide +kernel) ?_
  refine s_put0 C K b7 fl_X10_47 (Or.inl rfl) dX10_init_83 ?_
  refine x_aload_n C dX10_init_86 0 rfl rfl ?_
  refine x_iconst (v := nI 0) C dX10_init_87 (by decide +kernel) ?_
  refine s_put0 C K b7 fl_X10_51 (Or.inl rfl) dX10_init_88 ?_
  exact x_vret C E (Nat.le_of_ble_eq_true rfl) (Nat.le_of_ble_eq_true rfl) dX10_init_91 ⟨rfl, b7⟩
