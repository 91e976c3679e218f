/-! ===== a Side's constructor ===== -/
set_option maxHeartbeats 4000000 in
set_option maxRecDepth 100000 in
theorem ok_X6_init {l : Launch} {a0 : Nat} {D : va_G} {sa : Nat → Nat} {G : hG} (h n N P pn ha : Nat) (ev : Int32) (hN : n + 11 ≤ N) (hh : h < n ∨ N ≤ h) (hT : G.1 h = some (.inr 6)) (hA : a0 ≤ gA G h) (h00 : ∀ j, G.2.1 h j = 0) (F : fre n N G) (hPo : ¬ (n ≤ P ∧ P < N)) : hM l a0 D sa yX6_init cX6_init 5 none { frames := 2, cells := 11, slots := 334, locals := 40 } [.ref (gA G h), .ref (gA G P), .int (nI pn), .int (nI ha), .int ev] G (fun r G' => r = none ∧ ∃ Gm, G' = gI (gI (gI (gR Gm h 0 (some P)) h 1 (nI pn)) h 2 (nI ha)) h 3 ev ∧ blt a0 h n (n + 11) N 9 iv0 [(n, .inl (.int, 32)), (n + 1, .inl (.int, 32)), (n + 2, .inl (.int, 32)), (n + 3, .inr 7), (n + 4, .inl (.int, 32)), (n + 5, .inl (.int, 32)), (n + 6, .inl (.int, 32)), (n + 7, .inl (.int, 32)), (n + 8, .inl (.int, 32)), (n + 9, .inl (.int, 32)), (n + 10, .inl (.int, 32))] [(h, 4, n), (h, 5, n + 1), (h, 6, n + 2), (n + 3, 0, n + 4), (n + 3, 1, n + 5), (n + 3, 2, n + 6), (n + 3, 3, n + 7), (n + 3, 4, n + 8), (n + 3, 5, n + 9), (n + 3, 6, n + 10), (h, 8, n + 3)] G Gm) := by
  refine hM.of (by decide +kernel) (Nat.le_of_ble_eq_true rfl) ?_
  intro z hl h0 hD hS hNn C E
  subst hl; subst h0; subst hD; subst hS
  have C : hC z RX6 cX6_init := C
  have hZ := E.2.2.2.1
  show hX z 0 0 G [(0, .ref (gA G h)), (1, .ref (gA G P)), (2, .int (nI pn)), (3, .int (nI ha)), (4, .int ev)] 0 []
  have K : mkr z RX6 G h n N 6 := ⟨E.2.2.1, rfl, hT, hA, h00, F⟩
  have b0 : blt (z0 z) h n n N 0 iv0 [] [] G G := blt.rf hh (by omega)
  refine x_aload_n C dX6_init_0 0 rfl rfl ?_
  refine x_objInit C ml_X6_3 obj_inst obj_code (hrm (rm := { frames := 0, cells := 0, slots := 0, locals := 0 }) hZ ⟨Nat.le_of_ble_eq_true rfl, Nat.le_of_ble_eq_true rfl⟩) dX6_init_1 ?_
  refine x_aload_n C dX6_init_4 0 rfl rfl ?_
  refine x_bipush (v := nI 32) C dX6_init_5 (by decide +kernel) ?_
  refine s_arr (len := 32) (k := 4) C K b0 (by omega) (fun _ => rfl) (by decide) fl_X6_9 rfl rfl (Or.inl rfl) ac_int (by decide) (by rw [hZ]; exact Nat.le_of_ble_eq_true rfl) (by rw [hZ]; exact Nat.le_of_ble_eq_true rfl) dX6_init_7 dX6_init_9 (fun G1 b1 => ?_)
  refine x_aload_n C dX6_init_12 0 rfl rfl ?_
  refine x_bipush (v := nI 32) C dX6_init_13 (by decide +kernel) ?_
  refine s_arr (len := 32) (k := 5) C K b1 (by omega) (fun _ => rfl) (by decide) fl_X6_15 rfl rfl (Or.inl rfl) ac_int (by decide) (by rw [hZ]; exact Nat.le_of_ble_eq_true rfl) (by rw [hZ]; exact Nat.le_of_ble_eq_true rfl) dX6_init_15 dX6_init_17 (fun G2 b2 => ?_)
  refine x_aload_n C dX6_init_20 0 rfl rfl ?_
  refine x_bipush (v := nI 32) C dX6_init_21 (by decide +kernel) ?_
  refine s_arr (len := 32) (k := 6) C K b2 (by omega) (fun _ => rfl) (by decide) fl_X6_18 rfl rfl (Or.inl rfl) ac_int (by decide) (by rw [hZ]; exact Nat.le_of_ble_eq_true rfl) (by rw [hZ]; exact Nat.le_of_ble_eq_true rfl) dX6_init_23 dX6_init_25 (fun G3 b3 => ?_)
  refine x_aload_n C dX6_init_28 0 rfl rfl ?_
  refine x_iconst (v := nI 0) C dX6_init_29 (by decide +kernel) ?_
  refine s_put0 C K b3 fl_X6_21 (Or.inr rfl) dX6_init_30 ?_
  refine x_aload_n C dX6_init_33 0 rfl rfl ?_
  refine s_new (cj := 7) C K b3 (by omega) (fun _ => rfl) hc_X7 (by decide +kernel) cl_X6_25 it_X7 ini_X7 (by rw [hZ]; exact Nat.le_of_ble_eq_true rfl) (by rw [hZ]; exact Nat.le_of_ble_eq_true rfl) dX6_init_34 (fun G4 b4 k4 => ?_)
  refine x_dup C dX6_init_37 rfl ?_
  refine x_callIN C (ok_X7_init (n + 3) (n + 4) N (by omega) (by omega) k4.1 k4.2.1 k4.2.2.1 k4.2.2.2) mi_X7_init ml_X6_27 rfl rfl (Nat.le_of_ble_eq_true rfl) (hrm (rm := { frames := 0, cells := 0, slots := 0, locals := 0 }) hZ ⟨Nat.le_of_ble_eq_true rfl, Nat.le_of_ble_eq_true rfl⟩) (hcs hZ ⟨Nat.le_of_ble_eq_true rfl, Nat.le_of_ble_eq_true rfl⟩) dX6_init_38 (fun v G' hp => ?_)
  obtain ⟨rfl, c4⟩ := hp
  refine s_fin (k := 8) C K b3 b4 (by omega) c4 (by decide) fl_X6_28 rfl rfl dX6_init_41 (fun G5 b5 => ?_)
  have ho := b5.old
  have eP : gA G P = gA G5 P := ((b5.2.1 P (by omega)).2.1).symm
  have tH : G5.1 h = some (.inr 6) := ho.1.trans hT
  have tA : z0 z ≤ gA G5 h := by show z0 z ≤ G5.2.2.2.2 h; rw [ho.2.1]; exact hA
  rw [eP]
  refine x_aload_n C dX6_init_44 0 rfl rfl ?_
  refine x_aload_n C dX6_init_45 1 rfl rfl ?_
  refine x_putrF (q := P) C fl_X6_32 K.2.1 K.1 tH tA rfl rfl dX6_init_46 ?_
  refine x_aload_n C dX6_init_49 0 rfl rfl ?_
  refine x_iload_n C dX6_init_50 2 rfl rfl ?_
  refine x_putiF (G := gR G5 h 0 (some P)) C fl_X6_36 K.2.1 K.1 tH tA rfl dX6_init_51 ?_
  refine x_aload_n C dX6_init_54 0 rfl rfl ?_
  refine x_iload_n C dX6_init_55 3 rfl rfl ?_
  refine x_putiF (G := gI (gR G5 h 0 (some P)) h 1 (nI pn)) C fl_X6_40 K.2.1 K.1 tH tA rfl dX6_init_56 ?_
  refine x_aload_n C dX6_init_59 0 rfl rfl ?_
  refine x_iload C dX6_init_60 4 rfl ?_
  refine x_putiF (G := gI (gI (gR G5 h 0 (some P)) h 1 (nI pn)) h 2 (nI ha)) C fl_X6_43 K.2.1 K.1 tH tA rfl dX6_init_62 ?_
  exact x_vret C E (Nat.le_of_ble_eq_true rfl) (Nat.le_of_ble_eq_true rfl) dX6_init_65 ⟨rfl, G5, rfl, b5⟩
