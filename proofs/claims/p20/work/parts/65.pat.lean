/-! ===== a Pattern's constructor ===== -/
set_option maxHeartbeats 4000000 in
set_option maxRecDepth 100000 in
theorem ok_X3_init {l : Launch} {a0 : Nat} {D : va_G} {sa : Nat → Nat} {G : hG} (h n N : Nat) (u v : Int32) (hu : u = 0 ∨ u = 1) (hv : v = 0 ∨ v = 1) (hN : n + 8 ≤ N) (hh : h < n ∨ N ≤ h) (hT : G.1 h = some (.inr 3)) (hA : a0 ≤ gA G h) (h00 : ∀ j, G.2.1 h j = 0) (F : fre n N G) : hM l a0 D sa yX3_init cX3_init 3 none { frames := 1, cells := 8, slots := 42, locals := 20 } [.ref (gA G h), .int u, .int v] G (fun r G' => r = none ∧ ∃ Gm, G' = gI (gI Gm h 0 u) h 1 v ∧ blt a0 h n (n + 8) N 4 iv0 [(n, .inl (.array .int, 6)), (n + 1, .inl (.int, 5)), (n + 2, .inl (.int, 5)), (n + 3, .inl (.int, 5)), (n + 4, .inl (.int, 5)), (n + 5, .inl (.int, 5)), (n + 6, .inl (.int, 5)), (n + 7, .inl (.int, 6))] [(n, 0, n + 1), (n, 1, n + 2), (n, 2, n + 3), (n, 3, n + 4), (n, 4, n + 5), (n, 5, n + 6), (h, 2, n), (h, 3, n + 7)] G Gm) := by
  refine hM.of (by decide +kernel) (Nat.le_of_ble_eq_true rfl) ?_
  intro z hl h0 hD hS hNn C E
  subst hl; subst h0; subst hD; subst hS
  have C : hC z RX3 cX3_init := C
  have hZ := E.2.2.2.1
  show hX z 0 0 G [(0, .ref (gA G h)), (1, .int u), (2, .int v)] 0 []
  have K : mkr z RX3 G h n N 3 := ⟨E.2.2.1, rfl, hT, hA, h00, F⟩
  have b0 : blt (z0 z) h n n N 0 iv0 [] [] G G := blt.rf hh (by omega)
  refine x_aload_n C dX3_init_0 0 rfl rfl ?_
  refine x_objInit C ml_X3_3 obj_inst obj_code (hrm (rm := { frames := 0, cells := 0, slots := 0, locals := 0 }) hZ ⟨Nat.le_of_ble_eq_true rfl, Nat.le_of_ble_eq_true rfl⟩) dX3_init_1 ?_
  refine x_aload_n C dX3_init_4 0 rfl rfl ?_
  refine x_bipush (v := nI 6) C dX3_init_5 (by decide +kernel) ?_
  refine x_iconst (v := nI 5) C dX3_init_7 (by decide +kernel) ?_
  refine s_mul (u := 6) (v := 5) (k := 2) C K b0 (by omega) (fun _ _ _ _ => rfl) (by decide) fl_X3_13 rfl rfl cl_X3_11 (by decide) (by decide) (by rw [hZ]; exact Nat.le_of_ble_eq_true rfl) (by rw [hZ]; exact Nat.le_of_ble_eq_true rfl) dX3_init_8 dX3_init_12 (fun G1 b1 => ?_)
  refine x_aload_n C dX3_init_15 0 rfl rfl ?_
  refine x_bipush (v := nI 6) C dX3_init_16 (by decide +kernel) ?_
  refine s_arr (len := 6) (k := 3) C K b1 (by omega) (fun _ => rfl) (by decide) fl_X3_16 rfl rfl (Or.inl rfl) ac_int (by decide) (by rw [hZ]; exact Nat.le_of_ble_eq_true rfl) (by rw [hZ]; exact Nat.le_of_ble_eq_true rfl) dX3_init_18 dX3_init_20 (fun G2 b2 => ?_)
  refine x_aload_n C dX3_init_23 0 rfl rfl ?_
  refine x_iconst (v := nI 0) C dX3_init_24 (by decide +kernel) ?_
  refine s_put0 C K b2 fl_X3_20 (Or.inl rfl) dX3_init_25 ?_
  refine x_aload_n C dX3_init_28 0 rfl rfl ?_
  refine x_iconst (v := nI 0) C dX3_init_29 (by decide +kernel) ?_
  refine s_put0 C K b2 fl_X3_24 (Or.inr rfl) dX3_init_30 ?_
  have ho := b2.old
  refine x_aload_n C dX3_init_33 0 rfl rfl ?_
  refine x_iload_n C dX3_init_34 1 rfl rfl ?_
  refine x_putzF C fl_X3_28 K.2.1 K.1 (by rw [ho.1]; exact hT) (by show z0 z ≤ G2.2.2.2.2 h; rw [ho.2.1]; exact hA) rfl hu dX3_init_35 ?_
  refine x_aload_n C dX3_init_38 0 rfl rfl ?_
  refine x_iload_n C dX3_init_39 2 rfl rfl ?_
  refine x_putzF (G := gI G2 h 0 u) C fl_X3_31 K.2.1 K.1 (by show G2.1 h = _; rw [ho.1]; exact hT) (by show z0 z ≤ G2.2.2.2.2 h; rw [ho.2.1]; exact hA) rfl hv dX3_init_40 ?_
  exact x_vret C E (Nat.le_of_ble_eq_true rfl) (Nat.le_of_ble_eq_true rfl) dX3_init_43 ⟨rfl, G2, rfl, b2⟩
