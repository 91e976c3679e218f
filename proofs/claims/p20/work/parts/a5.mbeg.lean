/-! ===== the model: nameByte, begins ===== -/
theorem nmV_k (k : Nat) (v : Nat) (h : nmV k = nI v) : nmV k = nI v := h
set_option maxHeartbeats 4000000 in
set_option maxRecDepth 100000 in
theorem ok_X11_nameByte {l : Launch} {a0 : Nat} {D : va_G} {sa : Nat → Nat} {T : Nat → Option hKd} {I : Nat → Nat → Int32} {L : Nat → Nat → Int64} {R : Nat → Nat → Option Nat} {A : Nat → Nat} (k : Nat) (hk : k < 32) : hM l a0 D sa yX11_nameByte cX11_nameByte 1 (some .int) { frames := 0, cells := 0, slots := 0, locals := 0 } [.int (nI k)] (T, I, L, R, A) (fun r G' => r = some (.int (nmV k)) ∧ G' = (T, I, L, R, A)) := by
  refine hM.of (by decide +kernel) (Nat.le_of_ble_eq_true rfl) ?_
  intro z hl h0 hD hS hN C E
  subst hl; subst h0; subst hD; subst hS
  have C : hC z RX11 cX11_nameByte := C
  have hZ := E.2.2.2.1
  show hX z 0 0 (T, I, L, R, A) [(0, .int (nI k))] 0 []
  refine x_iload_n C dX11_nameByte_0 0 rfl rfl ?_
  by_cases s1_0 : k = 0
  · subst s1_0
    refine x_tableIn (off := 87) (tgt := 88) C dX11_nameByte_1 (by decide +kernel) (by decide +kernel) (by decide +kernel) (by decide) ?_
    refine x_bipush (v := nI 72) C dX11_nameByte_88 (by decide +kernel) ?_
    exact x_iret C E (Nat.le_of_ble_eq_true rfl) (Nat.le_of_ble_eq_true rfl) dX11_nameByte_90 (⟨by rfl, rfl⟩)
  by_cases s1_1 : k = 1
  · subst s1_1
    refine x_tableIn (off := 90) (tgt := 91) C dX11_nameByte_1 (by decide +kernel) (by decide +kernel) (by decide +kernel) (by decide) ?_
    refine x_bipush (v := nI 97) C dX11_nameByte_91 (by decide +kernel) ?_
    exact x_iret C E (Nat.le_of_ble_eq_true rfl) (Nat.le_of_ble_eq_true rfl) dX11_nameByte_93 (⟨by rfl, rfl⟩)
  by_cases s1_2 : k = 2
  · subst s1_2
    refine x_tableIn (off := 93) (tgt := 94) C dX11_nameByte_1 (by decide +kernel) (by decide +kernel) (by decide +kernel) (by decide) ?_
    refine x_bipush (v := nI 110) C dX11_nameByte_94 (by decide +kernel) ?_
    exact x_iret C E (Nat.le_of_ble_eq_true rfl) (Nat.le_of_ble_eq_true rfl) dX11_nameByte_96 (⟨by rfl, rfl⟩)
  by_cases s1_3 : k = 3
  · subst s1_3
    refine x_tableIn (off := 96) (tgt := 97) C dX11_nameByte_1 (by decide +kernel) (by decide +kernel) (by decide +kernel) (by decide) ?_
    refine x_bipush (v := nI 100) C dX11_nameByte_97 (by decide +kernel) ?_
    exact x_iret C E (Nat.le_of_ble_eq_true rfl) (Nat.le_of_ble_eq_true rfl) dX11_nameByte_99 (⟨by rfl, rfl⟩)
  by_cases s1_4 : k = 4
  · subst s1_4
    refine x_tableIn (off := 99) (tgt := 100) C dX11_nameByte_1 (by decide +kernel) (by decide +kernel) (by decide +kernel) (by decide) ?_
    refine x_bipush (v := nI 115) C dX11_nameByte_100 (by decide +kernel) ?_
    exact x_iret C E (Nat.le_of_ble_eq_true rfl) (Nat.le_of_ble_eq_true rfl) dX11_nameByte_102 (⟨by rfl, rfl⟩)
  by_cases s1_5 : k = 5
  · subst s1_5
    refine x_tableIn (off := 102) (tgt := 103) C dX11_nameByte_1 (by decide +kernel) (by decide +kernel) (by decide +kernel) (by decide) ?_
    refine x_bipush (v := nI 104) C dX11_nameByte_103 (by decide +kernel) ?_
    exact x_iret C E (Nat.le_of_ble_eq_true rfl) (Nat.le_of_ble_eq_true rfl) dX11_nameByte_105 (⟨by rfl, rfl⟩)
  by_cases s1_6 : k = 6
  · subst s1_6
    refine x_tableIn (off := 105) (tgt := 106) C dX11_nameByte_1 (by decide +kernel) (by decide +kernel) (by decide +kernel) (by decide) ?_
    refine x_bipush (v := nI 97) C dX11_nameByte_106 (by decide +kernel) ?_
    exact x_iret C E (Nat.le_of_ble_eq_true rfl) (Nat.le_of_ble_eq_true rfl) dX11_nameByte_108 (⟨by rfl, rfl⟩)
  by_cases s1_7 : k = 7
  · subst s1_7
    refine x_tableIn (off := 108) (tgt := 109) C dX11_nameByte_1 (by decide +kernel) (by decide +kernel) (by decide +kernel) (by decide) ?_
    refine x_bipush (v := nI 107) C dX11_nameByte_109 (by decide +kernel) ?_
    exact x_iret C E (Nat.le_of_ble_eq_true rfl) (Nat.le_of_ble_eq_true rfl) dX11_nameByte_111 (⟨by rfl, rfl⟩)
  by_cases s1_8 : k = 8
  · subst s1_8
    refine x_tableIn (off := 111) (tgt := 112) C dX11_nameByte_1 (by decide +kernel) (by decide +kernel) (by decide +kernel) (by decide) ?_
    refine x_bipush (v := nI 101) C dX11_nameByte_112 (by decide +kernel) ?_
    exact x_iret C E (Nat.le_of_ble_eq_true rfl) (Nat.le_of_ble_eq_true rfl) dX11_nameByte_114 (⟨by rfl, rfl⟩)
  by_cases s1_9 : k = 9
  · subst s1_9
    refine x_tableIn (off := 114) (tgt := 115) C dX11_nameByte_1 (by decide +kernel) (by decide +kernel) (by decide +kernel) (by decide) ?_
    refine x_bipush (v := nI 32) C dX11_nameByte_115 (by decide +kernel) ?_
    exact x_iret C E (Nat.le_of_ble_eq_true rfl) (Nat.le_of_ble_eq_true rfl) dX11_nameByte_117 (⟨by rfl, rfl⟩)
  by_cases s1_10 : k = 10
  · subst s1_10
    refine x_tableIn (off := 117) (tgt := 118) C dX11_nameByte_1 (by decide +kernel) (by decide +kernel) (by decide +kernel) (by decide) ?_
    refine x_bipush (v := nI 98) C dX11_nameByte_118 (by decide +kernel) ?_
    exact x_iret C E (Nat.le_of_ble_eq_true rfl) (Nat.le_of_ble_eq_true rfl) dX11_nameByte_120 (⟨by rfl, rfl⟩)
  by_cases s1_11 : k = 11
  · subst s1_11
    refine x_tableIn (off := 120) (tgt := 121) C dX11_nameByte_1 (by decide +kernel) (by decide +kernel) (by decide +kernel) (by decide) ?_
    refine x_bipush (v := nI 121) C dX11_nameByte_121 (by decide +kernel) ?_
    exact x_iret C E (Nat.le_of_ble_eq_true rfl) (Nat.le_of_ble_eq_true rfl) dX11_nameByte_123 (⟨by rfl, rfl⟩)
  by_cases s1_12 : k = 12
  · subst s1_12
    refine x_tableIn (off := 123) (tgt := 124) C dX11_nameByte_1 (by decide +kernel) (by decide +kernel) (by decide +kernel) (by decide) ?_
    refine x_bipush (v := nI 32) C dX11_nameByte_124 (by decide +kernel) ?_
    exact x_iret C E (Nat.le_of_ble_eq_true rfl) (Nat.le_of_ble_eq_true rfl) dX11_nameByte_126 (⟨by rfl, rfl⟩)
  by_cases s1_13 : k = 13
  · subst s1_13
    refine x_tableIn (off := 126) (tgt := 127) C dX11_nameByte_1 (by decide +kernel) (by decide +kernel) (by decide +kernel) (by decide) ?_
    refine x_bipush (v := nI 115) C dX11_nameByte_127 (by decide +kernel) ?_
    exact x_iret C E (Nat.le_of_ble_eq_true rfl) (Nat.le_of_ble_eq_true rfl) dX11_nameByte_129 (⟨by rfl, rfl⟩)
  by_cases s1_14 : k = 14
  · subst s1_14
    refine x_tableIn (off := 129) (tgt := 130) C dX11_nameByte_1 (by decide +kernel) (by decide +kernel) (by decide +kernel) (by decide) ?_
    refine x_bipush (v := nI 116) C dX11_nameByte_130 (by decide +kernel) ?_
    exact x_iret C E (Nat.le_of_ble_eq_true rfl) (Nat.le_of_ble_eq_true rfl) dX11_nameByte_132 (⟨by rfl, rfl⟩)
  by_cases s1_15 : k = 15
  · subst s1_15
    refine x_tableIn (off := 132) (tgt := 133) C dX11_nameByte_1 (by decide +kernel) (by decide +kernel) (by decide +kernel) (by decide) ?_
    refine x_bipush (v := nI 101) C dX11_nameByte_133 (by decide +kernel) ?_
    exact x_iret C E (Nat.le_of_ble_eq_true rfl) (Nat.le_of_ble_eq_true rfl) dX11_nameByte_135 (⟨by rfl, rfl⟩)
  by_cases s1_16 : k = 16
  · subst s1_16
    refine x_tableIn (off := 135) (tgt := 136) C dX11_nameByte_1 (by decide +kernel) (by decide +kernel) (by decide +kernel) (by decide) ?_
    refine x_bipush (v := nI 112) C dX11_nameByte_136 (by decide +kernel) ?_
    exact x_iret C E (Nat.le_of_ble_eq_true rfl) (Nat.le_of_ble_eq_true rfl) dX11_nameByte_138 (⟨by rfl, rfl⟩)
  by_cases s1_17 : k = 17
  · subst s1_17
    refine x_tableIn (off := 138) (tgt := 139) C dX11_nameByte_1 (by decide +kernel) (by decide +kernel) (by decide +kernel) (by decide) ?_
    refine x_bipush (v := nI 115) C dX11_nameByte_139 (by decide +kernel) ?_
    exact x_iret C E (Nat.le_of_ble_eq_true rfl) (Nat.le_of_ble_eq_true rfl) dX11_nameByte_141 (⟨by rfl, rfl⟩)
  refine x_tableOut (tgt := 142) C dX11_nameByte_1 (Or.inr (by rw [nI_toInt (by omega)]; omega)) (by decide) ?_
  refine x_iconst (v := nI 0) C dX11_nameByte_142 (by decide +kernel) ?_
  exact x_iret C E (Nat.le_of_ble_eq_true rfl) (Nat.le_of_ble_eq_true rfl) dX11_nameByte_143 (⟨by unfold nmV; rw [if_neg (by omega)]; rfl, rfl⟩)

def opB (kn : Nat → Bool) (ha : Nat) (pub told : Nat → Int32) (wt : Bool) (σ : sgT) : sgT := sgR (sgR (sgR (sgR σ 0 nmV) 1 (bgF kn ha pub told 2)) 6 told) 7 (upd (upd (upd (upd (upd (σ 7) 9 (bI wt)) 8 (nI 0)) 7 (nI 0)) 10 (nI 0)) 13 (nI 0))
theorem bS.b {σ : sgT} (h : bS σ) {kn : Nat → Bool} {ha : Nat} {pub told : Nat → Int32} {wt : Bool} (ht : ∀ j, j < 32 → byt (told j) < 256) : bS (opB kn ha pub told wt σ) := by
  refine ⟨fun j _ => bgF_b _ _ _ _ _ _, h.2.1, ht, fun f h1 h2 => ?_⟩
  show upd (upd (upd (upd (upd (σ 7) 9 (bI wt)) 8 (nI 0)) 7 (nI 0)) 10 (nI 0)) 13 (nI 0) f = 0 ∨ upd (upd (upd (upd (upd (σ 7) 9 (bI wt)) 8 (nI 0)) 7 (nI 0)) 10 (nI 0)) 13 (nI 0) f = 1
  rcases (show f = 7 ∨ f = 8 ∨ f = 9 by omega) with rfl | rfl | rfl
  · exact Or.inl rfl
  · exact Or.inl rfl
  · exact bI_01 wt
theorem nm_step {I J K : Nat → Nat → Int32} {c s i : Nat} {v : Int32} (h : J c = fun j => if 32 * s ≤ j ∧ j < 32 * s + i then nmV (j - 32 * s) else I c j) (hv : v = nmV i) (e : K c = upd (J c) (32 * s + i) v) : K c = fun j => if 32 * s ≤ j ∧ j < 32 * s + (i + 1) then nmV (j - 32 * s) else I c j := by
  rw [e, h]
  funext j
  unfold upd
  by_cases h1 : j = 32 * s + i
  · rw [if_pos h1, if_pos (by omega), hv, show j - 32 * s = i by omega]
  · rw [if_neg h1]
    show (if 32 * s ≤ j ∧ j < 32 * s + i then nmV (j - 32 * s) else I c j) = _
    by_cases h2 : 32 * s ≤ j ∧ j < 32 * s + i
    · rw [if_pos h2, if_pos (by omega)]
    · rw [if_neg h2, if_neg (by omega)]
theorem nm_row {I J : Nat → Nat → Int32} {c s : Nat} (h : J c = fun j => if 32 * s ≤ j ∧ j < 32 * s + 32 then nmV (j - 32 * s) else I c j) : wRow I J c s nmV := wRow.mx h (fun _ _ => rfl)
set_option maxHeartbeats 4000000 in
set_option maxRecDepth 100000 in
theorem ok1_X11_begins {l : Launch} {a0 : Nat} {D : va_G} {sa : Nat → Nat} {T : Nat → Option hKd} {I : Nat → Nat → Int32} {L : Nat → Nat → Int64} {R : Nat → Nat → Option Nat} {A : Nat → Nat} (mO : isM T R A a0) (hc : shC I) (s : Nat) (hs5 : s < 5) (h13 : h13Z I) (σ : sgT) (dn : Bool) (hE : mdE σ I s dn) (p : Nat) (hp34 : I 34 s = nI p) (hp8 : p < 8) (kn : Nat → Bool) (hkn : ∀ h, h < 2 → I 25 (2 * p + h) = bI (kn h)) (ha : Nat) (hha : I 35 s = nI ha) (ha2 : ha < 2) (sec pub told : Nat → Int32) (hsec : mR I 51 s sec) (ov : Int32) (hov : I 37 s = ov) (hk1 : kn ha = true → ∀ j, j < 32 → pub j = pubF sec j) (hk2 : kn (1 - ha) = true → ov ≠ -1) (htold : ov ≠ -1 → ∀ j, j < 32 → told j = pubF (secF ov (nI 0)) j) (hno : ov ≠ -1) : hM l a0 D sa yX11_begins cX11_begins 3 none { frames := 5, cells := 0, slots := 0, locals := 122 } [.ref (A 63), .int (nI s)] (T, I, L, R, A) (fun r G' => r = none ∧ ∃ I' L', G' = (T, I', L', R, A) ∧ mdE (opB kn ha pub told (decide (ov ≠ -1)) σ) I' s false ∧ mF 5 s I I' ∧ I' 57 = I 57 ∧ I' 59 = I 59) := by
  refine hM.of (by decide +kernel) (Nat.le_of_ble_eq_true rfl) ?_
  intro z hl h0 hD hS hN C E
  subst hl; subst h0; subst hD; subst hS
  have C : hC z RX11 cX11_begins := C
  have hZ := E.2.2.2.1
  show hX z 0 0 (T, I, L, R, A) [(0, .ref (A 63)), (1, .int (nI s))] 0 []
  have hc0 := hc
  refine x_aload_n C dX11_begins_0 0 rfl rfl ?_
  refine x_getrN C fl_X11_195 mO.1 rfl (mO.2.2 40 _ rfl).1 dX11_begins_1 ?_
  refine x_iload_n C dX11_begins_4 1 rfl rfl ?_
  refine x_iconst (v := nI 0) C dX11_begins_5 (by decide +kernel) ?_
  refine x_iastN C (mO.2.2 40 _ rfl).2.1 (mO.2.2 40 _ rfl).2.2 (by omega) (by omega) dX11_begins_6 (fun I1 eI1 => ?_)
  refine x_aload_n C dX11_begins_7 0 rfl rfl ?_
  refine x_getrN C fl_X11_198 mO.1 rfl (mO.2.2 41 _ rfl).1 dX11_begins_8 ?_
  refine x_iload_n C dX11_begins_11 1 rfl rfl ?_
  refine x_iconst (v := nI 0) C dX11_begins_12 (by decide +kernel) ?_
  refine x_zastN C (mO.2.2 41 _ rfl).2.1 (mO.2.2 41 _ rfl).2.2 (by omega) (by omega) (by first | exact Or.inl rfl | exact Or.inr rfl | assumption) dX11_begins_13 (fun I2 eI2 => ?_)
  refine x_aload_n C dX11_begins_14 0 rfl rfl ?_
  refine x_getrN C fl_X11_201 mO.1 rfl (mO.2.2 42 _ rfl).1 dX11_begins_15 ?_
  refine x_iload_n C dX11_begins_18 1 rfl rfl ?_
  refine x_iconst (v := nI 0) C dX11_begins_19 (by decide +kernel) ?_
  refine x_zastN C (mO.2.2 42 _ rfl).2.1 (mO.2.2 42 _ rfl).2.2 (by omega) (by omega) (by first | exact Or.inl rfl | exact Or.inr rfl | assumption) dX11_begins_20 (fun I3 eI3 => ?_)
  refine x_aload_n C dX11_begins_21 0 rfl rfl ?_
  refine x_getrN C fl_X11_204 mO.1 rfl (mO.2.2 43 _ rfl).1 dX11_begins_22 ?_
  refine x_iload_n C dX11_begins_25 1 rfl rfl ?_
  refine x_iconst (v := nI 0) C dX11_begins_26 (by decide +kernel) ?_
  refine x_iastN C (mO.2.2 43 _ rfl).2.1 (mO.2.2 43 _ rfl).2.2 (by omega) (by omega) dX11_begins_27 (fun I4 eI4 => ?_)
  refine x_aload_n C dX11_begins_28 0 rfl rfl ?_
  refine x_getrN C fl_X11_207 mO.1 rfl (mO.2.2 44 _ rfl).1 dX11_begins_29 ?_
  refine x_iload_n C dX11_begins_32 1 rfl rfl ?_
  refine x_iconst (v := nI 0) C dX11_begins_33 (by decide +kernel) ?_
  refine x_iastN C (mO.2.2 44 _ rfl).2.1 (mO.2.2 44 _ rfl).2.2 (by omega) (by omega) dX11_begins_34 (fun I5 eI5 => ?_)
  refine x_aload_n C dX11_begins_35 0 rfl rfl ?_
  refine x_getrN C fl_X11_210 mO.1 rfl (mO.2.2 45 _ rfl).1 dX11_begins_36 ?_
  refine x_iload_n C dX11_begins_39 1 rfl rfl ?_
  refine x_iconst (v := nI 0) C dX11_begins_40 (by decide +kernel) ?_
  refine x_zastN C (mO.2.2 45 _ rfl).2.1 (mO.2.2 45 _ rfl).2.2 (by omega) (by omega) (by first | exact Or.inl rfl | exact Or.inr rfl | assumption) dX11_begins_41 (fun I6 eI6 => ?_)
  refine x_aload_n C dX11_begins_42 0 rfl rfl ?_
  refine x_getrN C fl_X11_213 mO.1 rfl (mO.2.2 46 _ rfl).1 dX11_begins_43 ?_
  refine x_iload_n C dX11_begins_46 1 rfl rfl ?_
  refine x_aload_n C dX11_begins_47 0 rfl rfl ?_
  refine x_getrN C fl_X11_186 mO.1 rfl (mO.2.2 37 _ rfl).1 dX11_begins_48 ?_
  refine x_iload_n C dX11_begins_51 1 rfl rfl ?_
  refine x_ialdN C (mO.2.2 37 _ rfl).2.1 (by omega) (by omega) dX11_begins_52 ?_
  refine x_eqi (y := ov) (by rw [eI6, va_up_other _ _ (by decide), eI5, va_up_other _ _ (by decide), eI4, va_up_other _ _ (by decide), eI3, va_up_other _ _ (by decide), eI2, va_up_other _ _ (by decide), eI1, va_up_other _ _ (by decide)]; exact hov) ?_
  refine x_iconst (v := (-1)) C dX11_begins_53 (by decide +kernel) ?_
  refine x_icmp_eq (tgt := 61) C dX11_begins_54 (by decide) (fun c54 => absurd c54 (by exact hno)) (fun c54 => ?_)
  refine x_iconst (v := nI 1) C dX11_begins_57 (by decide +kernel) ?_
  refine x_goto (tgt := 62) C dX11_begins_58 (by decide) ?_
  refine x_zastN C (mO.2.2 46 _ rfl).2.1 (mO.2.2 46 _ rfl).2.2 (by omega) (by omega) (by first | exact Or.inl rfl | exact Or.inr rfl | assumption) dX11_begins_62 (fun I7 eI7 => ?_)
  refine x_aload_n C dX11_begins_63 0 rfl rfl ?_
  refine x_getrN C fl_X11_213 mO.1 rfl (mO.2.2 46 _ rfl).1 dX11_begins_64 ?_
  refine x_iload_n C dX11_begins_67 1 rfl rfl ?_
  refine x_zaldN C (mO.2.2 46 _ rfl).2.1 (by omega) (by omega) dX11_begins_68 ?_
  refine x_eqi (y := nI 1) (by rw [eI7, va_up_same]; simp [upd]) ?_
  refine x_if_eqN (tgt := 105) C (by omega) dX11_begins_69 (by decide) (fun c69 => absurd c69 (by omega)) (fun c69 => ?_)
  refine x_aload_n C dX11_begins_72 0 rfl rfl ?_
  refine x_aload_n C dX11_begins_73 0 rfl rfl ?_
  refine x_getrN C fl_X11_186 mO.1 rfl (mO.2.2 37 _ rfl).1 dX11_begins_74 ?_
  refine x_iload_n C dX11_begins_77 1 rfl rfl ?_
  refine x_ialdN C (mO.2.2 37 _ rfl).2.1 (by omega) (by omega) dX11_begins_78 ?_
  refine x_eqi (y := ov) (by rw [eI7, va_up_other _ _ (by decide), eI6, va_up_other _ _ (by decide), eI5, va_up_other _ _ (by decide), eI4, va_up_other _ _ (by decide), eI3, va_up_other _ _ (by decide), eI2, va_up_other _ _ (by decide), eI1, va_up_other _ _ (by decide)]; exact hov) ?_
  refine x_iconst (v := nI 0) C dX11_begins_79 (by decide +kernel) ?_
  refine x_aload_n C dX11_begins_80 0 rfl rfl ?_
  refine x_getrN C fl_X11_249 mO.1 rfl (mO.2.2 61 _ rfl).1 dX11_begins_81 ?_
  refine x_iconst (v := nI 0) C dX11_begins_84 (by decide +kernel) ?_
  have Fw : fmS [40, 41, 42, 43, 44, 45, 46] I I7 := by rw [eI7, eI6, eI5, eI4, eI3, eI2, eI1]; exact (((((((fmS.of fx.rf (by decide)).u (by decide) (by decide)).u (by decide) (by decide)).u (by decide) (by decide)).u (by decide) (by decide)).u (by decide) (by decide)).u (by decide) (by decide)).u (by decide) (by decide)
  refine x_callV C (ok_X11_secret mO ov (nI 0) 61 400 0 (Fw.c (by decide) (by decide) hc).1 (Fw.c (by decide) (by decide) hc).2 (mO.2.2 61 _ rfl).2.1 (by decide) (mO.2.2 61 _ rfl).2.2 (by decide) (by decide)) mv_X11_secret ml_X11_394 mO.1 rfl rfl rfl (Nat.le_of_ble_eq_true rfl) (hrm (rm := { frames := 0, cells := 0, slots := 0, locals := 0 }) hZ ⟨Nat.le_of_ble_eq_true rfl, Nat.le_of_ble_eq_true rfl⟩) (hcs hZ ⟨Nat.le_of_ble_eq_true rfl, Nat.le_of_ble_eq_true rfl⟩) dX11_begins_85 (fun v G' hp => ?_)
  obtain ⟨rfl, Js, rfl, u1, u2⟩ := hp
  show hX z 0 0 (T, Js, L, R, A) [(0, .ref (A 63)), (1, .int (nI s))] 88 []
  refine x_aload_n C dX11_begins_88 0 rfl rfl ?_
  refine x_aload_n C dX11_begins_89 0 rfl rfl ?_
  refine x_getrN C fl_X11_249 mO.1 rfl (mO.2.2 61 _ rfl).1 dX11_begins_90 ?_
  refine x_iconst (v := nI 0) C dX11_begins_93 (by decide +kernel) ?_
  refine x_aload_n C dX11_begins_94 0 rfl rfl ?_
  refine x_getrN C fl_X11_234 mO.1 rfl (mO.2.2 53 _ rfl).1 dX11_begins_95 ?_
  refine x_bipush (v := nI 32) C dX11_begins_98 (by decide +kernel) ?_
  refine x_iload_n C dX11_begins_100 1 rfl rfl ?_
  refine x_imulN C dX11_begins_101 ?_
  refine x_callV C (ok_X11_publicOf mO 61 400 0 53 160 (32 * s) (mO.2.2 61 _ rfl).2.1 (by decide) (by decide) (by decide) (by decide) (mO.2.2 53 _ rfl).2.1 (mO.2.2 53 _ rfl).2.2 (by decide) (by omega) (by decide) (h13Z.o (u2.o 13 (by decide) (by decide)) (h13Z.o (Fw.o 13 (by decide) (by decide)) h13))) mv_X11_publicOf ml_X11_398 mO.1 rfl rfl rfl (Nat.le_of_ble_eq_true rfl) (hrm (rm := { frames := 0, cells := 0, slots := 0, locals := 0 }) hZ ⟨Nat.le_of_ble_eq_true rfl, Nat.le_of_ble_eq_true rfl⟩) (hcs hZ ⟨Nat.le_of_ble_eq_true rfl, Nat.le_of_ble_eq_true rfl⟩) dX11_begins_102 (fun v G' hp => ?_)
  obtain ⟨rfl, Jp, Lp, rfl, v1, v2, v3⟩ := hp
  have FB : fmS [0, 2, 3, 12, 13, 40, 41, 42, 43, 44, 45, 46, 53, 61] I Jp := ((Fw.w (by simp)).t u2 (by simp)).t (fmS.of v3 (by decide)) (by simp)
  have hz : h13Z Jp := v2
  have w53 : wRow I Jp 53 s told := wRow.mx (by rw [v1, u2.o 53 (by decide) (by decide), Fw.o 53 (by decide) (by decide)]) (fun i hi => by rw [htold hno i hi]; exact pub_cong (fun j hj => by rw [u1]; show (if 0 ≤ 0 + j ∧ 0 + j < 0 + 32 then secF ov (nI 0) (0 + j - 0) else _) = _; rw [if_pos (by omega), show 0 + j - 0 = j by omega]) i)
  show hX z 0 0 (T, Jp, Lp, R, A) [(0, .ref (A 63)), (1, .int (nI s))] 105 []
  refine x_iconst (v := nI 0) C dX11_begins_105 (by decide +kernel) ?_
  refine x_istore_n (lv' := [(2, .int (nI 0)), (0, .ref (A 63)), (1, .int (nI s))]) C dX11_begins_106 rfl (Nat.lt_of_lt_of_eq (by decide) hN.symm) rfl ?_
  have L107 : ∀ (fuel_ : Nat) (i : Nat) (J : Nat → Nat → Int32), 32 - i < fuel_ → (i ≤ 32) → (J 47 = fun j => if 32 * s ≤ j ∧ j < 32 * s + i then nmV (j - 32 * s) else I 47 j) → (J 48 = fun j => if 32 * s ≤ j ∧ j < 32 * s + i then nmV (j - 32 * s) else I 48 j) → (∀ q, q ≠ 47 → q ≠ 48 → J q = Jp q) → hX z 0 0 (T, J, Lp, R, A) [(2, .int (nI i)), (0, .ref (A 63)), (1, .int (nI s))] 107 [] := by
    intro fuel_
    induction fuel_ with
    | zero => intro i J hmz; exact absurd hmz (Nat.not_lt_zero _)
    | succ fuel_ ih107 =>
      intro i J hmz hi h47 h48 hq
      refine x_iload_n C dX11_begins_107 0 rfl rfl ?_
      refine x_bipush (v := nI 32) C dX11_begins_108 (by decide +kernel) ?_
      refine x_icmp_geN (tgt := 149) C (by omega) (by omega) dX11_begins_110 (by decide) (fun c110 => ?_) (fun c110 => ?_)
      · have hi32 : i = 32 := by omega
        subst hi32
        have oC : ∀ q, q ∉ [0, 2, 3, 12, 13, 40, 41, 42, 43, 44, 45, 46, 47, 48, 53, 61] → q ≠ 63 → J q = I q := fun q h1 h2 => by rw [hq q (fun e => h1 (by rw [e]; simp)) (fun e => h1 (by rw [e]; simp))]; exact FB.o q (by simp at h1 ⊢; omega) h2
        have oC53 : J 53 = Jp 53 := hq 53 (by decide) (by decide)
        refine x_iconst (v := nI 0) C dX11_begins_149 (by decide +kernel) ?_
        refine x_istore_n (lv' := [(2, .int (nI 0)), (0, .ref (A 63)), (1, .int (nI s))]) C dX11_begins_150 rfl (Nat.lt_of_lt_of_eq (by decide) hN.symm) rfl ?_
        have L151 : ∀ (fuel_ : Nat) (c : Nat) (J2 : Nat → Nat → Int32) (K2 : Nat → Nat → Int64), 2 - c < fuel_ → (c ≤ 2) → (wRow I J2 48 s (bgF kn ha pub told c)) → (∀ q, q ∉ [0, 2, 3, 12, 13, 48, 61] → q ≠ 63 → J2 q = J q) → (∀ j, j ≠ 1 → J2 63 j = J 63 j) → (h13Z J2) → hX z 0 0 (T, J2, K2, R, A) [(2, .int (nI c)), (0, .ref (A 63)), (1, .int (nI s))] 151 [] := by
          intro fuel_
          induction fuel_ with
          | zero => intro c J2 K2 hmz; exact absurd hmz (Nat.not_lt_zero _)
          | succ fuel_ ih151 =>
            intro c J2 K2 hmz hc w48 hC h63 hz2
            have hc2 : shC J2 := by unfold shC; rw [hC 4 (by decide) (by decide), hC 5 (by decide) (by decide), oC 4 (by decide) (by decide), oC 5 (by decide) (by decide)]; exact hc0
            refine x_iload_n C dX11_begins_151 0 rfl rfl ?_
            refine x_iconst (v := nI 2) C dX11_begins_152 (by decide +kernel) ?_
            refine x_icmp_geN (tgt := 240) C (by omega) (by omega) dX11_begins_153 (by decide) (fun c153 => ?_) (fun c153 => ?_)
            · exact x_vret C E (Nat.le_of_ble_eq_true rfl) (Nat.le_of_ble_eq_true rfl) dX11_begins_240 (by
                have ec : c = 2 := by omega
                subst ec
                have g40 : J2 40 = upd (I 40) s (nI 0) := by rw [hC 40 (by decide) (by decide), hq 40 (by decide) (by decide)]; rw [v3 40 (by decide), u2.o 40 (by decide) (by decide)]; rw [eI7, va_up_other _ _ (by decide), eI6, va_up_other _ _ (by decide), eI5, va_up_other _ _ (by decide), eI4, va_up_other _ _ (by decide), eI3, va_up_other _ _ (by decide), eI2, va_up_other _ _ (by decide), eI1, va_up_same]
                have g41 : J2 41 = upd (I 41) s (nI 0) := by rw [hC 41 (by decide) (by decide), hq 41 (by decide) (by decide)]; rw [v3 41 (by decide), u2.o 41 (by decide) (by decide)]; rw [eI7, va_up_other _ _ (by decide), eI6, va_up_other _ _ (by decide), eI5, va_up_other _ _ (by decide), eI4, va_up_other _ _ (by decide), eI3, va_up_other _ _ (by decide), eI2, va_up_same, eI1, va_up_other _ _ (by decide)]
                have g42 : J2 42 = upd (I 42) s (nI 0) := by rw [hC 42 (by decide) (by decide), hq 42 (by decide) (by decide)]; rw [v3 42 (by decide), u2.o 42 (by decide) (by decide)]; rw [eI7, va_up_other _ _ (by decide), eI6, va_up_other _ _ (by decide), eI5, va_up_other _ _ (by decide), eI4, va_up_other _ _ (by decide), eI3, va_up_same, eI2, va_up_other _ _ (by decide), eI1, va_up_other _ _ (by decide)]
                have g43 : J2 43 = upd (I 43) s (nI 0) := by rw [hC 43 (by decide) (by decide), hq 43 (by decide) (by decide)]; rw [v3 43 (by decide), u2.o 43 (by decide) (by decide)]; rw [eI7, va_up_other _ _ (by decide), eI6, va_up_other _ _ (by decide), eI5, va_up_other _ _ (by decide), eI4, va_up_same, eI3, va_up_other _ _ (by decide), eI2, va_up_other _ _ (by decide), eI1, va_up_other _ _ (by decide)]
                have g44 : J2 44 = upd (I 44) s (nI 0) := by rw [hC 44 (by decide) (by decide), hq 44 (by decide) (by decide)]; rw [v3 44 (by decide), u2.o 44 (by decide) (by decide)]; rw [eI7, va_up_other _ _ (by decide), eI6, va_up_other _ _ (by decide), eI5, va_up_same, eI4, va_up_other _ _ (by decide), eI3, va_up_other _ _ (by decide), eI2, va_up_other _ _ (by decide), eI1, va_up_other _ _ (by decide)]
                have g45 : J2 45 = upd (I 45) s (nI 0) := by rw [hC 45 (by decide) (by decide), hq 45 (by decide) (by decide)]; rw [v3 45 (by decide), u2.o 45 (by decide) (by decide)]; rw [eI7, va_up_other _ _ (by decide), eI6, va_up_same, eI5, va_up_other _ _ (by decide), eI4, va_up_other _ _ (by decide), eI3, va_up_other _ _ (by decide), eI2, va_up_other _ _ (by decide), eI1, va_up_other _ _ (by decide)]
                have g46 : J2 46 = upd (I 46) s (nI 1) := by rw [hC 46 (by decide) (by decide), hq 46 (by decide) (by decide)]; rw [v3 46 (by decide), u2.o 46 (by decide) (by decide)]; rw [eI7, va_up_same, eI6, va_up_other _ _ (by decide), eI5, va_up_other _ _ (by decide), eI4, va_up_other _ _ (by decide), eI3, va_up_other _ _ (by decide), eI2, va_up_other _ _ (by decide), eI1, va_up_other _ _ (by decide)]
                have y47 : wRow I J2 47 s nmV := (nm_row h47).to (hC 47 (by decide) (by decide))
                have y53 : wRow I J2 53 s told := w53.to (by rw [hC 53 (by decide) (by decide), oC53])
                have F9 : fmS [0, 2, 3, 12, 13, 40, 41, 42, 43, 44, 45, 46, 47, 48, 53, 61] I J2 := by
                  refine ⟨fun q h1 h2 => ?_, fun j hj => ?_⟩
                  · rw [hC q (by simp at h1 ⊢; omega) h2]; exact oC q h1 h2
                  · rw [h63 j hj, hq 63 (by decide) (by decide)]; exact FB.2 j hj
                have o := fun q (a1 : 39 ≤ q) (a2 : q ≤ 54) (a3 : q ∉ [0, 2, 3, 12, 13, 40, 41, 42, 43, 44, 45, 46, 47, 48, 53, 61]) => F9.o q a3 (by omega)
                refine ⟨rfl, J2, K2, rfl, ?_, ?_, F9.o 57 (by decide) (by decide), F9.o 59 (by decide) (by decide)⟩
                · obtain ⟨h1, h2, h3, h4, h5, h6, h7, ⟨q1, q2, q3, q4, q5, q6⟩, h9, h10⟩ := hE
                  exact ⟨y47.1, w48.1, h3.o (F9.o 49 (by decide) (by decide)), h4.o (F9.o 50 (by decide) (by decide)), h5.o (F9.o 52 (by decide) (by decide)), h6.o (F9.o 54 (by decide) (by decide)), (fun _ => y53.1), ⟨by rw [g42]; simp [upd, opB, sgR], by rw [g45]; simp [upd, opB, sgR], by rw [g46]; show upd (I 46) s _ s = bI (decide (ov ≠ -1)); rw [decide_eq_true hno]; simp [upd]; rfl, by rw [g43]; simp [upd, opB, sgR], by rw [F9.o 39 (by decide) (by decide)]; exact q5, by rw [g40]; simp [upd, opB, sgR]⟩, (fun e => by cases e), by rw [g41]; simp [upd]; rfl⟩
                · refine mF.fm F9 (by decide) (fun _ => hz2) (fun q h1 h2 h3 => ?_)
                  simp at h1
                  rcases (show q = 40 ∨ q = 41 ∨ q = 42 ∨ q = 43 ∨ q = 44 ∨ q = 45 ∨ q = 46 ∨ q = 47 ∨ q = 48 ∨ q = 53 by omega) with rfl | rfl | rfl | rfl | rfl | rfl | rfl | rfl | rfl | rfl
                  · exact sdO.fld g40 (by decide)
                  · exact sdO.fld g41 (by decide)
                  · exact sdO.fld g42 (by decide)
                  · exact sdO.fld g43 (by decide)
                  · exact sdO.fld g44 (by decide)
                  · exact sdO.fld g45 (by decide)
                  · exact sdO.fld g46 (by decide)
                  · exact sdO.row y47 (by decide)
                  · exact sdO.row w48 (by decide)
                  · exact sdO.row y53 (by decide))
            · refine x_aload_n C dX11_begins_156 1 rfl rfl ?_
              refine x_getrN C fl_X11_152 mO.1 rfl (mO.2.2 25 _ rfl).1 dX11_begins_157 ?_
              refine x_iconst (v := nI 2) C dX11_begins_160 (by decide +kernel) ?_
              refine x_aload_n C dX11_begins_161 1 rfl rfl ?_
              refine x_getrN C fl_X11_177 mO.1 rfl (mO.2.2 34 _ rfl).1 dX11_begins_162 ?_
              refine x_iload_n C dX11_begins_165 2 rfl rfl ?_
              refine x_ialdN C (mO.2.2 34 _ rfl).2.1 (by omega) (by omega) dX11_begins_166 ?_
              refine x_eqi (y := nI p) (by rw [hC 34 (by decide) (by decide), oC 34 (by decide) (by decide)]; exact hp34) ?_
              refine x_imulN C dX11_begins_167 ?_
              refine x_iload_n C dX11_begins_168 0 rfl rfl ?_
              refine x_iaddN C dX11_begins_169 ?_
              refine x_zaldN C (mO.2.2 25 _ rfl).2.1 (by omega) (by omega) dX11_begins_170 ?_
              refine x_eqi (y := bI (kn c)) (by rw [hC 25 (by decide) (by decide), oC 25 (by decide) (by decide)]; exact hkn c (by omega)) ?_
              refine x_if_eq (tgt := 234) C dX11_begins_171 (by decide) (fun c171 => ?_) (fun c171 => ?_)
              · refine x_iinc (v := nI (c + 1)) (lv' := [(2, .int (nI (c + 1))), (0, .ref (A 63)), (1, .int (nI s))]) C dX11_begins_234 0 rfl (nI_inc 1) (Nat.lt_of_lt_of_eq (by decide) hN.symm) rfl ?_
                refine x_goto (tgt := 151) C dX11_begins_237 (by decide) ?_
                refine x_sub (lv' := _) [0, 1, 2] rfl ?_
                exact ih151 (c + 1) J2 K2 (by omega) (by omega) (by show wRow I J2 48 s (bg1 kn ha pub told c (bgF kn ha pub told c)); unfold bg1; rw [bI_F c171]; exact w48) hC h63 hz2
              · refine x_aload_n C dX11_begins_174 1 rfl rfl ?_
                refine x_getrN C fl_X11_180 mO.1 rfl (mO.2.2 35 _ rfl).1 dX11_begins_175 ?_
                refine x_iload_n C dX11_begins_178 2 rfl rfl ?_
                refine x_ialdN C (mO.2.2 35 _ rfl).2.1 (by omega) (by omega) dX11_begins_179 ?_
                refine x_eqi (y := nI ha) (by rw [hC 35 (by decide) (by decide), oC 35 (by decide) (by decide)]; exact hha) ?_
                refine x_iload_n C dX11_begins_180 0 rfl rfl ?_
                refine x_icmp_neN (tgt := 204) C (by omega) (by omega) dX11_begins_181 (by decide) (fun c181 => ?_) (fun c181 => ?_)
                · refine x_aload_n C dX11_begins_204 1 rfl rfl ?_
                  refine x_getrN C fl_X11_234 mO.1 rfl (mO.2.2 53 _ rfl).1 dX11_begins_205 ?_
                  refine x_bipush (v := nI 32) C dX11_begins_208 (by decide +kernel) ?_
                  refine x_iload_n C dX11_begins_210 2 rfl rfl ?_
                  refine x_imulN C dX11_begins_211 ?_
                  refine x_aload_n C dX11_begins_212 1 rfl rfl ?_
                  refine x_getrN C fl_X11_249 mO.1 rfl (mO.2.2 61 _ rfl).1 dX11_begins_213 ?_
                  refine x_iconst (v := nI 0) C dX11_begins_216 (by decide +kernel) ?_
                  refine x_bipush (v := nI 32) C dX11_begins_217 (by decide +kernel) ?_
                  refine x_callS C (ok_X11_copy 53 61 (32 * s) (0) (32) 160 400 (mO.2.2 53 _ rfl).2.1 (mO.2.2 61 _ rfl).2.1 (mO.2.2 61 _ rfl).2.2 (by omega) (by omega) (by decide) (by decide) (fun e => absurd e (by decide))) ms_X11_copy ml_X11_270 rfl rfl (Nat.le_of_ble_eq_true rfl) (hrm (rm := { frames := 0, cells := 0, slots := 0, locals := 0 }) hZ ⟨Nat.le_of_ble_eq_true rfl, Nat.le_of_ble_eq_true rfl⟩) (hcs hZ ⟨Nat.le_of_ble_eq_true rfl, Nat.le_of_ble_eq_true rfl⟩) dX11_begins_219 (fun v G' hp => ?_)
                  obtain ⟨rfl, rfl⟩ := hp
                  generalize eI8 : va_up J2 61 (fun j => if 0 ≤ j ∧ j < 0 + 32 then J2 53 (32 * s + (j - 0)) else J2 61 j) = I8
                  have eI8 := eI8.symm
                  have x1 : ∀ j, j < 32 → I8 61 j = told j := fun j hj => by rw [eI8, va_up_same]; show (if 0 ≤ j ∧ j < 0 + 32 then J2 53 (32 * s + (j - 0)) else _) = _; rw [if_pos (by omega), Nat.sub_zero, hC 53 (by decide) (by decide), oC53]; exact w53.1 j hj
                  have Fq : fmS [61] J2 I8 := by rw [eI8]; exact (fmS.of fx.rf (by decide)).u (by decide) (by decide)
                  have hz3 : h13Z I8 := h13Z.o (Fq.o 13 (by decide) (by decide)) hz2
                  show hX z 0 0 (T, I8, K2, R, A) [(2, .int (nI c)), (0, .ref (A 63)), (1, .int (nI s))] 222 []
                  refine x_aload_n C dX11_begins_222 1 rfl rfl ?_
                  refine x_iload_n C dX11_begins_223 2 rfl rfl ?_
                  refine x_aload_n C dX11_begins_224 1 rfl rfl ?_
                  refine x_getrN C fl_X11_249 mO.1 rfl (mO.2.2 61 _ rfl).1 dX11_begins_225 ?_
                  refine x_iconst (v := nI 0) C dX11_begins_228 (by decide +kernel) ?_
                  refine x_bipush (v := nI 32) C dX11_begins_229 (by decide +kernel) ?_
                  refine x_callV C (ok_X11_mixHash mO s 61 400 0 32 (Fq.c (by decide) (by decide) hc2).1 (Fq.c (by decide) (by decide) hc2).2 hs5 (mO.2.2 61 _ rfl).2.1 (by decide) (by decide) (by decide) (by decide) (by decide)) mv_X11_mixHash ml_X11_404 mO.1 rfl rfl rfl (Nat.le_of_ble_eq_true rfl) (hrm (rm := { frames := 0, cells := 0, slots := 0, locals := 0 }) hZ ⟨Nat.le_of_ble_eq_true rfl, Nat.le_of_ble_eq_true rfl⟩) (hcs hZ ⟨Nat.le_of_ble_eq_true rfl, Nat.le_of_ble_eq_true rfl⟩) dX11_begins_231 (fun v G' hp => ?_)
                  obtain ⟨rfl, Jm, rfl, m1, m2⟩ := hp
                  have y48 : wRow I Jm 48 s (bgF kn ha pub told (c + 1)) := by
                    have e1 := (wRow.mx (f := bgF kn ha pub told (c + 1)) m1 (fun i hi => ?_))
                    · refine ⟨e1.1, fun j hj => ?_⟩
                      rw [e1.2 j hj, Fq.o 48 (by decide) (by decide)]; exact w48.2 j hj
                    · show _ = bg1 kn ha pub told c (bgF kn ha pub told c) i
                      unfold bg1
                      rw [bI_T c171]
                      simp only [if_true]
                      rw [if_neg (fun e => c181 e.symm)]
                      exact congrFun (mixF_cg (fun i hi => by rw [Fq.o 48 (by decide) (by decide)]; exact w48.1 i hi) (fun i hi => by rw [Nat.zero_add]; exact x1 i hi)) i
                  have y1 : ∀ q, q ∉ [0, 2, 3, 12, 13, 48, 61] → q ≠ 63 → Jm q = J q := fun q h1 h2 => by rw [m2.o q (by simp at h1 ⊢; omega) h2, Fq.o q (by simp at h1 ⊢; omega) h2]; exact hC q h1 h2
                  have y2 : ∀ j, j ≠ 1 → Jm 63 j = J 63 j := fun j hj => by rw [m2.2 j hj, Fq.2 j hj]; exact h63 j hj
                  have y3 : h13Z Jm := h13Z.o (m2.o 13 (by decide) (by decide)) hz3
                  show hX z 0 0 (T, Jm, K2, R, A) [(2, .int (nI c)), (0, .ref (A 63)), (1, .int (nI s))] 234 []
                  refine x_iinc (v := nI (c + 1)) (lv' := [(2, .int (nI (c + 1))), (0, .ref (A 63)), (1, .int (nI s))]) C dX11_begins_234 0 rfl (nI_inc 1) (Nat.lt_of_lt_of_eq (by decide) hN.symm) rfl ?_
                  refine x_goto (tgt := 151) C dX11_begins_237 (by decide) ?_
                  refine x_sub (lv' := _) [0, 1, 2] rfl ?_
                  exact ih151 (c + 1) Jm K2 (by omega) (by omega) y48 y1 y2 y3
                · refine x_aload_n C dX11_begins_184 1 rfl rfl ?_
                  refine x_aload_n C dX11_begins_185 1 rfl rfl ?_
                  refine x_getrN C fl_X11_228 mO.1 rfl (mO.2.2 51 _ rfl).1 dX11_begins_186 ?_
                  refine x_bipush (v := nI 32) C dX11_begins_189 (by decide +kernel) ?_
                  refine x_iload_n C dX11_begins_191 2 rfl rfl ?_
                  refine x_imulN C dX11_begins_192 ?_
                  refine x_aload_n C dX11_begins_193 1 rfl rfl ?_
                  refine x_getrN C fl_X11_249 mO.1 rfl (mO.2.2 61 _ rfl).1 dX11_begins_194 ?_
                  refine x_iconst (v := nI 0) C dX11_begins_197 (by decide +kernel) ?_
                  refine x_callV C (ok_X11_publicOf mO 51 160 (32 * s) 61 400 0 (mO.2.2 51 _ rfl).2.1 (by decide) (by omega) (by decide) (by decide) (mO.2.2 61 _ rfl).2.1 (mO.2.2 61 _ rfl).2.2 (by decide) (by decide) (by decide) hz2) mv_X11_publicOf ml_X11_398 mO.1 rfl rfl rfl (Nat.le_of_ble_eq_true rfl) (hrm (rm := { frames := 0, cells := 0, slots := 0, locals := 0 }) hZ ⟨Nat.le_of_ble_eq_true rfl, Nat.le_of_ble_eq_true rfl⟩) (hcs hZ ⟨Nat.le_of_ble_eq_true rfl, Nat.le_of_ble_eq_true rfl⟩) dX11_begins_198 (fun v G' hp => ?_)
                  obtain ⟨rfl, Jq, Lq, rfl, v1, v2, v3⟩ := hp
                  have x1 : ∀ j, j < 32 → Jq 61 j = pub j := fun j hj => by rw [v1]; show (if 0 ≤ j ∧ j < 0 + 32 then pubF _ (j - 0) else _) = _; rw [if_pos (by omega), Nat.sub_zero, hk1 (by rw [c181]; exact bI_T c171) j hj]; exact pub_cong (fun i hi => by rw [hC 51 (by decide) (by decide), oC 51 (by decide) (by decide)]; exact hsec i hi) j
                  have Fq : fmS [12, 13, 61] J2 Jq := fmS.of v3 (by decide)
                  have hz3 : h13Z Jq := v2
                  show hX z 0 0 (T, Jq, Lq, R, A) [(2, .int (nI c)), (0, .ref (A 63)), (1, .int (nI s))] 201 []
                  refine x_goto (tgt := 222) C dX11_begins_201 (by decide) ?_
                  refine x_aload_n C dX11_begins_222 1 rfl rfl ?_
                  refine x_iload_n C dX11_begins_223 2 rfl rfl ?_
                  refine x_aload_n C dX11_begins_224 1 rfl rfl ?_
                  refine x_getrN C fl_X11_249 mO.1 rfl (mO.2.2 61 _ rfl).1 dX11_begins_225 ?_
                  refine x_iconst (v := nI 0) C dX11_begins_228 (by decide +kernel) ?_
                  refine x_bipush (v := nI 32) C dX11_begins_229 (by decide +kernel) ?_
                  refine x_callV C (ok_X11_mixHash mO s 61 400 0 32 (Fq.c (by decide) (by decide) hc2).1 (Fq.c (by decide) (by decide) hc2).2 hs5 (mO.2.2 61 _ rfl).2.1 (by decide) (by decide) (by decide) (by decide) (by decide)) mv_X11_mixHash ml_X11_404 mO.1 rfl rfl rfl (Nat.le_of_ble_eq_true rfl) (hrm (rm := { frames := 0, cells := 0, slots := 0, locals := 0 }) hZ ⟨Nat.le_of_ble_eq_true rfl, Nat.le_of_ble_eq_true rfl⟩) (hcs hZ ⟨Nat.le_of_ble_eq_true rfl, Nat.le_of_ble_eq_true rfl⟩) dX11_begins_231 (fun v G' hp => ?_)
                  obtain ⟨rfl, Jm, rfl, m1, m2⟩ := hp
                  have y48 : wRow I Jm 48 s (bgF kn ha pub told (c + 1)) := by
                    have e1 := (wRow.mx (f := bgF kn ha pub told (c + 1)) m1 (fun i hi => ?_))
                    · refine ⟨e1.1, fun j hj => ?_⟩
                      rw [e1.2 j hj, Fq.o 48 (by decide) (by decide)]; exact w48.2 j hj
                    · show _ = bg1 kn ha pub told c (bgF kn ha pub told c) i
                      unfold bg1
                      rw [bI_T c171]
                      simp only [if_true]
                      rw [if_pos c181.symm]
                      exact congrFun (mixF_cg (fun i hi => by rw [Fq.o 48 (by decide) (by decide)]; exact w48.1 i hi) (fun i hi => by rw [Nat.zero_add]; exact x1 i hi)) i
                  have y1 : ∀ q, q ∉ [0, 2, 3, 12, 13, 48, 61] → q ≠ 63 → Jm q = J q := fun q h1 h2 => by rw [m2.o q (by simp at h1 ⊢; omega) h2, Fq.o q (by simp at h1 ⊢; omega) h2]; exact hC q h1 h2
                  have y2 : ∀ j, j ≠ 1 → Jm 63 j = J 63 j := fun j hj => by rw [m2.2 j hj, Fq.2 j hj]; exact h63 j hj
                  have y3 : h13Z Jm := h13Z.o (m2.o 13 (by decide) (by decide)) hz3
                  show hX z 0 0 (T, Jm, Lq, R, A) [(2, .int (nI c)), (0, .ref (A 63)), (1, .int (nI s))] 234 []
                  refine x_iinc (v := nI (c + 1)) (lv' := [(2, .int (nI (c + 1))), (0, .ref (A 63)), (1, .int (nI s))]) C dX11_begins_234 0 rfl (nI_inc 1) (Nat.lt_of_lt_of_eq (by decide) hN.symm) rfl ?_
                  refine x_goto (tgt := 151) C dX11_begins_237 (by decide) ?_
                  refine x_sub (lv' := _) [0, 1, 2] rfl ?_
                  exact ih151 (c + 1) Jm Lq (by omega) (by omega) y48 y1 y2 y3
        refine x_sub (lv' := _) [0, 1, 2] rfl ?_
        exact L151 _ 0 J Lp (Nat.lt_succ_self _) (by omega) (nm_row h48) (fun _ _ _ => rfl) (fun _ _ => rfl) (h13Z.o (hq 13 (by decide) (by decide)) hz)
      · refine x_aload_n C dX11_begins_113 1 rfl rfl ?_
        refine x_getrN C fl_X11_216 mO.1 rfl (mO.2.2 47 _ rfl).1 dX11_begins_114 ?_
        refine x_bipush (v := nI 32) C dX11_begins_117 (by decide +kernel) ?_
        refine x_iload_n C dX11_begins_119 2 rfl rfl ?_
        refine x_imulN C dX11_begins_120 ?_
        refine x_iload_n C dX11_begins_121 0 rfl rfl ?_
        refine x_iaddN C dX11_begins_122 ?_
        refine x_iload_n C dX11_begins_123 0 rfl rfl ?_
        refine x_callS C (ok_X11_nameByte i (by omega)) ms_X11_nameByte ml_X11_401 rfl rfl (Nat.le_of_ble_eq_true rfl) (hrm (rm := { frames := 0, cells := 0, slots := 0, locals := 0 }) hZ ⟨Nat.le_of_ble_eq_true rfl, Nat.le_of_ble_eq_true rfl⟩) (hcs hZ ⟨Nat.le_of_ble_eq_true rfl, Nat.le_of_ble_eq_true rfl⟩) dX11_begins_124 (fun v G' hp => ?_)
        obtain ⟨rfl, rfl⟩ := hp
        show hX z 0 0 (T, J, Lp, R, A) [(2, .int (nI i)), (0, .ref (A 63)), (1, .int (nI s))] 127 [.int (nmV i), .int (nI (32 * s + i)), .ref (A 47)]
        refine x_iastN C (mO.2.2 47 _ rfl).2.1 (mO.2.2 47 _ rfl).2.2 (by omega) (by omega) dX11_begins_127 (fun I9 eI9 => ?_)
        refine x_aload_n C dX11_begins_128 1 rfl rfl ?_
        refine x_getrN C fl_X11_219 mO.1 rfl (mO.2.2 48 _ rfl).1 dX11_begins_129 ?_
        refine x_bipush (v := nI 32) C dX11_begins_132 (by decide +kernel) ?_
        refine x_iload_n C dX11_begins_134 2 rfl rfl ?_
        refine x_imulN C dX11_begins_135 ?_
        refine x_iload_n C dX11_begins_136 0 rfl rfl ?_
        refine x_iaddN C dX11_begins_137 ?_
        refine x_iload_n C dX11_begins_138 0 rfl rfl ?_
        refine x_callS C (ok_X11_nameByte i (by omega)) ms_X11_nameByte ml_X11_401 rfl rfl (Nat.le_of_ble_eq_true rfl) (hrm (rm := { frames := 0, cells := 0, slots := 0, locals := 0 }) hZ ⟨Nat.le_of_ble_eq_true rfl, Nat.le_of_ble_eq_true rfl⟩) (hcs hZ ⟨Nat.le_of_ble_eq_true rfl, Nat.le_of_ble_eq_true rfl⟩) dX11_begins_139 (fun v G' hp => ?_)
        obtain ⟨rfl, rfl⟩ := hp
        show hX z 0 0 (T, I9, Lp, R, A) [(2, .int (nI i)), (0, .ref (A 63)), (1, .int (nI s))] 142 [.int (nmV i), .int (nI (32 * s + i)), .ref (A 48)]
        refine x_iastN C (mO.2.2 48 _ rfl).2.1 (mO.2.2 48 _ rfl).2.2 (by omega) (by omega) dX11_begins_142 (fun I10 eI10 => ?_)
        have s1 := nm_step h47 rfl (show I10 47 = upd (J 47) (32 * s + i) (nmV i) by rw [eI10, va_up_other _ _ (by decide), eI9, va_up_same])
        have s2 := nm_step h48 rfl (show I10 48 = upd (J 48) (32 * s + i) (nmV i) by rw [eI10, va_up_same, eI9, va_up_other _ _ (by decide)])
        have s3 : ∀ q, q ≠ 47 → q ≠ 48 → I10 q = Jp q := fun q h1 h2 => by rw [eI10, va_up_other _ _ h2, eI9, va_up_other _ _ h1]; exact hq q h1 h2
        refine x_iinc (v := nI (i + 1)) (lv' := [(2, .int (nI (i + 1))), (0, .ref (A 63)), (1, .int (nI s))]) C dX11_begins_143 0 rfl (nI_inc 1) (Nat.lt_of_lt_of_eq (by decide) hN.symm) rfl ?_
        refine x_goto (tgt := 107) C dX11_begins_146 (by decide) ?_
        refine x_sub (lv' := _) [0, 1, 2] rfl ?_
        exact ih107 (i + 1) I10 (by omega) (by omega) s1 s2 s3
  refine x_sub (lv' := _) [0, 1, 2] rfl ?_
  exact L107 _ 0 Jp (Nat.lt_succ_self _) (by omega) (by rw [FB.o 47 (by decide) (by decide)]; funext j; rw [if_neg (by omega)]) (by rw [FB.o 48 (by decide) (by decide)]; funext j; rw [if_neg (by omega)]) (fun _ _ _ => rfl)

set_option maxHeartbeats 4000000 in
set_option maxRecDepth 100000 in
theorem ok0_X11_begins {l : Launch} {a0 : Nat} {D : va_G} {sa : Nat → Nat} {T : Nat → Option hKd} {I : Nat → Nat → Int32} {L : Nat → Nat → Int64} {R : Nat → Nat → Option Nat} {A : Nat → Nat} (mO : isM T R A a0) (hc : shC I) (s : Nat) (hs5 : s < 5) (h13 : h13Z I) (σ : sgT) (dn : Bool) (hE : mdE σ I s dn) (p : Nat) (hp34 : I 34 s = nI p) (hp8 : p < 8) (kn : Nat → Bool) (hkn : ∀ h, h < 2 → I 25 (2 * p + h) = bI (kn h)) (ha : Nat) (hha : I 35 s = nI ha) (ha2 : ha < 2) (sec pub told : Nat → Int32) (hsec : mR I 51 s sec) (ov : Int32) (hov : I 37 s = ov) (hk1 : kn ha = true → ∀ j, j < 32 → pub j = pubF sec j) (hk2 : kn (1 - ha) = true → ov ≠ -1) (htold : ov ≠ -1 → ∀ j, j < 32 → told j = pubF (secF ov (nI 0)) j) (hno : ov = -1) : hM l a0 D sa yX11_begins cX11_begins 3 none { frames := 5, cells := 0, slots := 0, locals := 122 } [.ref (A 63), .int (nI s)] (T, I, L, R, A) (fun r G' => r = none ∧ ∃ I' L', G' = (T, I', L', R, A) ∧ mdE (opB kn ha pub told (decide (ov ≠ -1)) σ) I' s false ∧ mF 5 s I I' ∧ I' 57 = I 57 ∧ I' 59 = I 59) := by
  refine hM.of (by decide +kernel) (Nat.le_of_ble_eq_true rfl) ?_
  intro z hl h0 hD hS hN C E
  subst hl; subst h0; subst hD; subst hS
  have C : hC z RX11 cX11_begins := C
  have hZ := E.2.2.2.1
  show hX z 0 0 (T, I, L, R, A) [(0, .ref (A 63)), (1, .int (nI s))] 0 []
  have hc0 := hc
  refine x_aload_n C dX11_begins_0 0 rfl rfl ?_
  refine x_getrN C fl_X11_195 mO.1 rfl (mO.2.2 40 _ rfl).1 dX11_begins_1 ?_
  refine x_iload_n C dX11_begins_4 1 rfl rfl ?_
  refine x_iconst (v := nI 0) C dX11_begins_5 (by decide +kernel) ?_
  refine x_iastN C (mO.2.2 40 _ rfl).2.1 (mO.2.2 40 _ rfl).2.2 (by omega) (by omega) dX11_begins_6 (fun I1 eI1 => ?_)
  refine x_aload_n C dX11_begins_7 0 rfl rfl ?_
  refine x_getrN C fl_X11_198 mO.1 rfl (mO.2.2 41 _ rfl).1 dX11_begins_8 ?_
  refine x_iload_n C dX11_begins_11 1 rfl rfl ?_
  refine x_iconst (v := nI 0) C dX11_begins_12 (by decide +kernel) ?_
  refine x_zastN C (mO.2.2 41 _ rfl).2.1 (mO.2.2 41 _ rfl).2.2 (by omega) (by omega) (by first | exact Or.inl rfl | exact Or.inr rfl | assumption) dX11_begins_13 (fun I2 eI2 => ?_)
  refine x_aload_n C dX11_begins_14 0 rfl rfl ?_
  refine x_getrN C fl_X11_201 mO.1 rfl (mO.2.2 42 _ rfl).1 dX11_begins_15 ?_
  refine x_iload_n C dX11_begins_18 1 rfl rfl ?_
  refine x_iconst (v := nI 0) C dX11_begins_19 (by decide +kernel) ?_
  refine x_zastN C (mO.2.2 42 _ rfl).2.1 (mO.2.2 42 _ rfl).2.2 (by omega) (by omega) (by first | exact Or.inl rfl | exact Or.inr rfl | assumption) dX11_begins_20 (fun I3 eI3 => ?_)
  refine x_aload_n C dX11_begins_21 0 rfl rfl ?_
  refine x_getrN C fl_X11_204 mO.1 rfl (mO.2.2 43 _ rfl).1 dX11_begins_22 ?_
  refine x_iload_n C dX11_begins_25 1 rfl rfl ?_
  refine x_iconst (v := nI 0) C dX11_begins_26 (by decide +kernel) ?_
  refine x_iastN C (mO.2.2 43 _ rfl).2.1 (mO.2.2 43 _ rfl).2.2 (by omega) (by omega) dX11_begins_27 (fun I4 eI4 => ?_)
  refine x_aload_n C dX11_begins_28 0 rfl rfl ?_
  refine x_getrN C fl_X11_207 mO.1 rfl (mO.2.2 44 _ rfl).1 dX11_begins_29 ?_
  refine x_iload_n C dX11_begins_32 1 rfl rfl ?_
  refine x_iconst (v := nI 0) C dX11_begins_33 (by decide +kernel) ?_
  refine x_iastN C (mO.2.2 44 _ rfl).2.1 (mO.2.2 44 _ rfl).2.2 (by omega) (by omega) dX11_begins_34 (fun I5 eI5 => ?_)
  refine x_aload_n C dX11_begins_35 0 rfl rfl ?_
  refine x_getrN C fl_X11_210 mO.1 rfl (mO.2.2 45 _ rfl).1 dX11_begins_36 ?_
  refine x_iload_n C dX11_begins_39 1 rfl rfl ?_
  refine x_iconst (v := nI 0) C dX11_begins_40 (by decide +kernel) ?_
  refine x_zastN C (mO.2.2 45 _ rfl).2.1 (mO.2.2 45 _ rfl).2.2 (by omega) (by omega) (by first | exact Or.inl rfl | exact Or.inr rfl | assumption) dX11_begins_41 (fun I6 eI6 => ?_)
  refine x_aload_n C dX11_begins_42 0 rfl rfl ?_
  refine x_getrN C fl_X11_213 mO.1 rfl (mO.2.2 46 _ rfl).1 dX11_begins_43 ?_
  refine x_iload_n C dX11_begins_46 1 rfl rfl ?_
  refine x_aload_n C dX11_begins_47 0 rfl rfl ?_
  refine x_getrN C fl_X11_186 mO.1 rfl (mO.2.2 37 _ rfl).1 dX11_begins_48 ?_
  refine x_iload_n C dX11_begins_51 1 rfl rfl ?_
  refine x_ialdN C (mO.2.2 37 _ rfl).2.1 (by omega) (by omega) dX11_begins_52 ?_
  refine x_eqi (y := ov) (by rw [eI6, va_up_other _ _ (by decide), eI5, va_up_other _ _ (by decide), eI4, va_up_other _ _ (by decide), eI3, va_up_other _ _ (by decide), eI2, va_up_other _ _ (by decide), eI1, va_up_other _ _ (by decide)]; exact hov) ?_
  refine x_iconst (v := (-1)) C dX11_begins_53 (by decide +kernel) ?_
  refine x_icmp_eq (tgt := 61) C dX11_begins_54 (by decide) (fun c54 => ?_) (fun c54 => absurd c54 (by exact fun h => h hno))
  refine x_iconst (v := nI 0) C dX11_begins_61 (by decide +kernel) ?_
  refine x_zastN C (mO.2.2 46 _ rfl).2.1 (mO.2.2 46 _ rfl).2.2 (by omega) (by omega) (by first | exact Or.inl rfl | exact Or.inr rfl | assumption) dX11_begins_62 (fun I7 eI7 => ?_)
  refine x_aload_n C dX11_begins_63 0 rfl rfl ?_
  refine x_getrN C fl_X11_213 mO.1 rfl (mO.2.2 46 _ rfl).1 dX11_begins_64 ?_
  refine x_iload_n C dX11_begins_67 1 rfl rfl ?_
  refine x_zaldN C (mO.2.2 46 _ rfl).2.1 (by omega) (by omega) dX11_begins_68 ?_
  refine x_eqi (y := nI 0) (by rw [eI7, va_up_same]; simp [upd]) ?_
  refine x_if_eqN (tgt := 105) C (by omega) dX11_begins_69 (by decide) (fun c69 => ?_) (fun c69 => absurd c69 (by omega))
  have FB : fmS [0, 2, 3, 12, 13, 40, 41, 42, 43, 44, 45, 46, 53, 61] I I7 := by rw [eI7, eI6, eI5, eI4, eI3, eI2, eI1]; exact (((((((fmS.of fx.rf (by decide)).u (by decide) (by decide)).u (by decide) (by decide)).u (by decide) (by decide)).u (by decide) (by decide)).u (by decide) (by decide)).u (by decide) (by decide)).u (by decide) (by decide)
  have hz : h13Z I7 := h13Z.o (by rw [eI7, va_up_other _ _ (by decide), eI6, va_up_other _ _ (by decide), eI5, va_up_other _ _ (by decide), eI4, va_up_other _ _ (by decide), eI3, va_up_other _ _ (by decide), eI2, va_up_other _ _ (by decide), eI1, va_up_other _ _ (by decide)]) h13
  refine x_iconst (v := nI 0) C dX11_begins_105 (by decide +kernel) ?_
  refine x_istore_n (lv' := [(2, .int (nI 0)), (0, .ref (A 63)), (1, .int (nI s))]) C dX11_begins_106 rfl (Nat.lt_of_lt_of_eq (by decide) hN.symm) rfl ?_
  have L107 : ∀ (fuel_ : Nat) (i : Nat) (J : Nat → Nat → Int32), 32 - i < fuel_ → (i ≤ 32) → (J 47 = fun j => if 32 * s ≤ j ∧ j < 32 * s + i then nmV (j - 32 * s) else I 47 j) → (J 48 = fun j => if 32 * s ≤ j ∧ j < 32 * s + i then nmV (j - 32 * s) else I 48 j) → (∀ q, q ≠ 47 → q ≠ 48 → J q = I7 q) → hX z 0 0 (T, J, L, R, A) [(2, .int (nI i)), (0, .ref (A 63)), (1, .int (nI s))] 107 [] := by
    intro fuel_
    induction fuel_ with
    | zero => intro i J hmz; exact absurd hmz (Nat.not_lt_zero _)
    | succ fuel_ ih107 =>
      intro i J hmz hi h47 h48 hq
      refine x_iload_n C dX11_begins_107 0 rfl rfl ?_
      refine x_bipush (v := nI 32) C dX11_begins_108 (by decide +kernel) ?_
      refine x_icmp_geN (tgt := 149) C (by omega) (by omega) dX11_begins_110 (by decide) (fun c110 => ?_) (fun c110 => ?_)
      · have hi32 : i = 32 := by omega
        subst hi32
        have oC : ∀ q, q ∉ [0, 2, 3, 12, 13, 40, 41, 42, 43, 44, 45, 46, 47, 48, 53, 61] → q ≠ 63 → J q = I q := fun q h1 h2 => by rw [hq q (fun e => h1 (by rw [e]; simp)) (fun e => h1 (by rw [e]; simp))]; exact FB.o q (by simp at h1 ⊢; omega) h2
        refine x_iconst (v := nI 0) C dX11_begins_149 (by decide +kernel) ?_
        refine x_istore_n (lv' := [(2, .int (nI 0)), (0, .ref (A 63)), (1, .int (nI s))]) C dX11_begins_150 rfl (Nat.lt_of_lt_of_eq (by decide) hN.symm) rfl ?_
        have L151 : ∀ (fuel_ : Nat) (c : Nat) (J2 : Nat → Nat → Int32) (K2 : Nat → Nat → Int64), 2 - c < fuel_ → (c ≤ 2) → (wRow I J2 48 s (bgF kn ha pub told c)) → (∀ q, q ∉ [0, 2, 3, 12, 13, 48, 61] → q ≠ 63 → J2 q = J q) → (∀ j, j ≠ 1 → J2 63 j = J 63 j) → (h13Z J2) → hX z 0 0 (T, J2, K2, R, A) [(2, .int (nI c)), (0, .ref (A 63)), (1, .int (nI s))] 151 [] := by
          intro fuel_
          induction fuel_ with
          | zero => intro c J2 K2 hmz; exact absurd hmz (Nat.not_lt_zero _)
          | succ fuel_ ih151 =>
            intro c J2 K2 hmz hc w48 hC h63 hz2
            have hc2 : shC J2 := by unfold shC; rw [hC 4 (by decide) (by decide), hC 5 (by decide) (by decide), oC 4 (by decide) (by decide), oC 5 (by decide) (by decide)]; exact hc0
            refine x_iload_n C dX11_begins_151 0 rfl rfl ?_
            refine x_iconst (v := nI 2) C dX11_begins_152 (by decide +kernel) ?_
            refine x_icmp_geN (tgt := 240) C (by omega) (by omega) dX11_begins_153 (by decide) (fun c153 => ?_) (fun c153 => ?_)
            · exact x_vret C E (Nat.le_of_ble_eq_true rfl) (Nat.le_of_ble_eq_true rfl) dX11_begins_240 (by
                have ec : c = 2 := by omega
                subst ec
                have g40 : J2 40 = upd (I 40) s (nI 0) := by rw [hC 40 (by decide) (by decide), hq 40 (by decide) (by decide)]; rw [eI7, va_up_other _ _ (by decide), eI6, va_up_other _ _ (by decide), eI5, va_up_other _ _ (by decide), eI4, va_up_other _ _ (by decide), eI3, va_up_other _ _ (by decide), eI2, va_up_other _ _ (by decide), eI1, va_up_same]
                have g41 : J2 41 = upd (I 41) s (nI 0) := by rw [hC 41 (by decide) (by decide), hq 41 (by decide) (by decide)]; rw [eI7, va_up_other _ _ (by decide), eI6, va_up_other _ _ (by decide), eI5, va_up_other _ _ (by decide), eI4, va_up_other _ _ (by decide), eI3, va_up_other _ _ (by decide), eI2, va_up_same, eI1, va_up_other _ _ (by decide)]
                have g42 : J2 42 = upd (I 42) s (nI 0) := by rw [hC 42 (by decide) (by decide), hq 42 (by decide) (by decide)]; rw [eI7, va_up_other _ _ (by decide), eI6, va_up_other _ _ (by decide), eI5, va_up_other _ _ (by decide), eI4, va_up_other _ _ (by decide), eI3, va_up_same, eI2, va_up_other _ _ (by decide), eI1, va_up_other _ _ (by decide)]
                have g43 : J2 43 = upd (I 43) s (nI 0) := by rw [hC 43 (by decide) (by decide), hq 43 (by decide) (by decide)]; rw [eI7, va_up_other _ _ (by decide), eI6, va_up_other _ _ (by decide), eI5, va_up_other _ _ (by decide), eI4, va_up_same, eI3, va_up_other _ _ (by decide), eI2, va_up_other _ _ (by decide), eI1, va_up_other _ _ (by decide)]
                have g44 : J2 44 = upd (I 44) s (nI 0) := by rw [hC 44 (by decide) (by decide), hq 44 (by decide) (by decide)]; rw [eI7, va_up_other _ _ (by decide), eI6, va_up_other _ _ (by decide), eI5, va_up_same, eI4, va_up_other _ _ (by decide), eI3, va_up_other _ _ (by decide), eI2, va_up_other _ _ (by decide), eI1, va_up_other _ _ (by decide)]
                have g45 : J2 45 = upd (I 45) s (nI 0) := by rw [hC 45 (by decide) (by decide), hq 45 (by decide) (by decide)]; rw [eI7, va_up_other _ _ (by decide), eI6, va_up_same, eI5, va_up_other _ _ (by decide), eI4, va_up_other _ _ (by decide), eI3, va_up_other _ _ (by decide), eI2, va_up_other _ _ (by decide), eI1, va_up_other _ _ (by decide)]
                have g46 : J2 46 = upd (I 46) s (nI 0) := by rw [hC 46 (by decide) (by decide), hq 46 (by decide) (by decide)]; rw [eI7, va_up_same, eI6, va_up_other _ _ (by decide), eI5, va_up_other _ _ (by decide), eI4, va_up_other _ _ (by decide), eI3, va_up_other _ _ (by decide), eI2, va_up_other _ _ (by decide), eI1, va_up_other _ _ (by decide)]
                have y47 : wRow I J2 47 s nmV := (nm_row h47).to (hC 47 (by decide) (by decide))
                have y53 : J2 53 = I 53 := by rw [hC 53 (by decide) (by decide), hq 53 (by decide) (by decide), eI7, va_up_other _ _ (by decide), eI6, va_up_other _ _ (by decide), eI5, va_up_other _ _ (by decide), eI4, va_up_other _ _ (by decide), eI3, va_up_other _ _ (by decide), eI2, va_up_other _ _ (by decide), eI1, va_up_other _ _ (by decide)]
                have F9 : fmS [0, 2, 3, 12, 13, 40, 41, 42, 43, 44, 45, 46, 47, 48, 53, 61] I J2 := by
                  refine ⟨fun q h1 h2 => ?_, fun j hj => ?_⟩
                  · rw [hC q (by simp at h1 ⊢; omega) h2]; exact oC q h1 h2
                  · rw [h63 j hj, hq 63 (by decide) (by decide)]; exact FB.2 j hj
                have o := fun q (a1 : 39 ≤ q) (a2 : q ≤ 54) (a3 : q ∉ [0, 2, 3, 12, 13, 40, 41, 42, 43, 44, 45, 46, 47, 48, 53, 61]) => F9.o q a3 (by omega)
                refine ⟨rfl, J2, K2, rfl, ?_, ?_, F9.o 57 (by decide) (by decide), F9.o 59 (by decide) (by decide)⟩
                · obtain ⟨h1, h2, h3, h4, h5, h6, h7, ⟨q1, q2, q3, q4, q5, q6⟩, h9, h10⟩ := hE
                  exact ⟨y47.1, w48.1, h3.o (F9.o 49 (by decide) (by decide)), h4.o (F9.o 50 (by decide) (by decide)), h5.o (F9.o 52 (by decide) (by decide)), h6.o (F9.o 54 (by decide) (by decide)), (fun e => absurd e (by show ¬ bI (decide (ov ≠ -1)) = nI 1; rw [decide_eq_false (fun h => h hno)]; decide +kernel)), ⟨by rw [g42]; simp [upd, opB, sgR], by rw [g45]; simp [upd, opB, sgR], by rw [g46]; show upd (I 46) s _ s = bI (decide (ov ≠ -1)); rw [decide_eq_false (fun h => h hno)]; simp [upd]; rfl, by rw [g43]; simp [upd, opB, sgR], by rw [F9.o 39 (by decide) (by decide)]; exact q5, by rw [g40]; simp [upd, opB, sgR]⟩, (fun e => by cases e), by rw [g41]; simp [upd]; rfl⟩
                · refine mF.fm F9 (by decide) (fun _ => hz2) (fun q h1 h2 h3 => ?_)
                  simp at h1
                  rcases (show q = 40 ∨ q = 41 ∨ q = 42 ∨ q = 43 ∨ q = 44 ∨ q = 45 ∨ q = 46 ∨ q = 47 ∨ q = 48 ∨ q = 53 by omega) with rfl | rfl | rfl | rfl | rfl | rfl | rfl | rfl | rfl | rfl
                  · exact sdO.fld g40 (by decide)
                  · exact sdO.fld g41 (by decide)
                  · exact sdO.fld g42 (by decide)
                  · exact sdO.fld g43 (by decide)
                  · exact sdO.fld g44 (by decide)
                  · exact sdO.fld g45 (by decide)
                  · exact sdO.fld g46 (by decide)
                  · exact sdO.row y47 (by decide)
                  · exact sdO.row w48 (by decide)
                  · exact sdO.rf y53)
            · refine x_aload_n C dX11_begins_156 1 rfl rfl ?_
              refine x_getrN C fl_X11_152 mO.1 rfl (mO.2.2 25 _ rfl).1 dX11_begins_157 ?_
              refine x_iconst (v := nI 2) C dX11_begins_160 (by decide +kernel) ?_
              refine x_aload_n C dX11_begins_161 1 rfl rfl ?_
              refine x_getrN C fl_X11_177 mO.1 rfl (mO.2.2 34 _ rfl).1 dX11_begins_162 ?_
              refine x_iload_n C dX11_begins_165 2 rfl rfl ?_
              refine x_ialdN C (mO.2.2 34 _ rfl).2.1 (by omega) (by omega) dX11_begins_166 ?_
              refine x_eqi (y := nI p) (by rw [hC 34 (by decide) (by decide), oC 34 (by decide) (by decide)]; exact hp34) ?_
              refine x_imulN C dX11_begins_167 ?_
              refine x_iload_n C dX11_begins_168 0 rfl rfl ?_
              refine x_iaddN C dX11_begins_169 ?_
              refine x_zaldN C (mO.2.2 25 _ rfl).2.1 (by omega) (by omega) dX11_begins_170 ?_
              refine x_eqi (y := bI (kn c)) (by rw [hC 25 (by decide) (by decide), oC 25 (by decide) (by decide)]; exact hkn c (by omega)) ?_
              refine x_if_eq (tgt := 234) C dX11_begins_171 (by decide) (fun c171 => ?_) (fun c171 => ?_)
              · refine x_iinc (v := nI (c + 1)) (lv' := [(2, .int (nI (c + 1))), (0, .ref (A 63)), (1, .int (nI s))]) C dX11_begins_234 0 rfl (nI_inc 1) (Nat.lt_of_lt_of_eq (by decide) hN.symm) rfl ?_
                refine x_goto (tgt := 151) C dX11_begins_237 (by decide) ?_
                refine x_sub (lv' := _) [0, 1, 2] rfl ?_
                exact ih151 (c + 1) J2 K2 (by omega) (by omega) (by show wRow I J2 48 s (bg1 kn ha pub told c (bgF kn ha pub told c)); unfold bg1; rw [bI_F c171]; exact w48) hC h63 hz2
              · refine x_aload_n C dX11_begins_174 1 rfl rfl ?_
                refine x_getrN C fl_X11_180 mO.1 rfl (mO.2.2 35 _ rfl).1 dX11_begins_175 ?_
                refine x_iload_n C dX11_begins_178 2 rfl rfl ?_
                refine x_ialdN C (mO.2.2 35 _ rfl).2.1 (by omega) (by omega) dX11_begins_179 ?_
                refine x_eqi (y := nI ha) (by rw [hC 35 (by decide) (by decide), oC 35 (by decide) (by decide)]; exact hha) ?_
                refine x_iload_n C dX11_begins_180 0 rfl rfl ?_
                refine x_icmp_neN (tgt := 204) C (by omega) (by omega) dX11_begins_181 (by decide) (fun c181 => ?_) (fun c181 => ?_)
                · refine x_aload_n C dX11_begins_204 1 rfl rfl ?_
                  refine x_getrN C fl_X11_234 mO.1 rfl (mO.2.2 53 _ rfl).1 dX11_begins_205 ?_
                  refine x_bipush (v := nI 32) C dX11_begins_208 (by decide +kernel) ?_
                  refine x_iload_n C dX11_begins_210 2 rfl rfl ?_
                  refine x_imulN C dX11_begins_211 ?_
                  refine x_aload_n C dX11_begins_212 1 rfl rfl ?_
                  refine x_getrN C fl_X11_249 mO.1 rfl (mO.2.2 61 _ rfl).1 dX11_begins_213 ?_
                  refine x_iconst (v := nI 0) C dX11_begins_216 (by decide +kernel) ?_
                  refine x_bipush (v := nI 32) C dX11_begins_217 (by decide +kernel) ?_
                  refine x_callS C (ok_X11_copy 53 61 (32 * s) (0) (32) 160 400 (mO.2.2 53 _ rfl).2.1 (mO.2.2 61 _ rfl).2.1 (mO.2.2 61 _ rfl).2.2 (by omega) (by omega) (by decide) (by decide) (fun e => absurd e (by decide))) ms_X11_copy ml_X11_270 rfl rfl (Nat.le_of_ble_eq_true rfl) (hrm (rm := { frames := 0, cells := 0, slots := 0, locals := 0 }) hZ ⟨Nat.le_of_ble_eq_true rfl, Nat.le_of_ble_eq_true rfl⟩) (hcs hZ ⟨Nat.le_of_ble_eq_true rfl, Nat.le_of_ble_eq_true rfl⟩) dX11_begins_219 (fun v G' hp => ?_)
                  obtain ⟨rfl, rfl⟩ := hp
                  generalize eI8 : va_up J2 61 (fun j => if 0 ≤ j ∧ j < 0 + 32 then J2 53 (32 * s + (j - 0)) else J2 61 j) = I8
                  have eI8 := eI8.symm
                  have x1 : ∀ j, j < 32 → I8 61 j = told j := absurd hno (hk2 (by rw [show 1 - ha = c by omega]; exact bI_T c171))
                  have Fq : fmS [61] J2 I8 := by rw [eI8]; exact (fmS.of fx.rf (by decide)).u (by decide) (by decide)
                  have hz3 : h13Z I8 := h13Z.o (Fq.o 13 (by decide) (by decide)) hz2
                  show hX z 0 0 (T, I8, K2, R, A) [(2, .int (nI c)), (0, .ref (A 63)), (1, .int (nI s))] 222 []
                  refine x_aload_n C dX11_begins_222 1 rfl rfl ?_
                  refine x_iload_n C dX11_begins_223 2 rfl rfl ?_
                  refine x_aload_n C dX11_begins_224 1 rfl rfl ?_
                  refine x_getrN C fl_X11_249 mO.1 rfl (mO.2.2 61 _ rfl).1 dX11_begins_225 ?_
                  refine x_iconst (v := nI 0) C dX11_begins_228 (by decide +kernel) ?_
                  refine x_bipush (v := nI 32) C dX11_begins_229 (by decide +kernel) ?_
                  refine x_callV C (ok_X11_mixHash mO s 61 400 0 32 (Fq.c (by decide) (by decide) hc2).1 (Fq.c (by decide) (by decide) hc2).2 hs5 (mO.2.2 61 _ rfl).2.1 (by decide) (by decide) (by decide) (by decide) (by decide)) mv_X11_mixHash ml_X11_404 mO.1 rfl rfl rfl (Nat.le_of_ble_eq_true rfl) (hrm (rm := { frames := 0, cells := 0, slots := 0, locals := 0 }) hZ ⟨Nat.le_of_ble_eq_true rfl, Nat.le_of_ble_eq_true rfl⟩) (hcs hZ ⟨Nat.le_of_ble_eq_true rfl, Nat.le_of_ble_eq_true rfl⟩) dX11_begins_231 (fun v G' hp => ?_)
                  obtain ⟨rfl, Jm, rfl, m1, m2⟩ := hp
                  have y48 : wRow I Jm 48 s (bgF kn ha pub told (c + 1)) := by
                    have e1 := (wRow.mx (f := bgF kn ha pub told (c + 1)) m1 (fun i hi => ?_))
                    · refine ⟨e1.1, fun j hj => ?_⟩
                      rw [e1.2 j hj, Fq.o 48 (by decide) (by decide)]; exact w48.2 j hj
                    · show _ = bg1 kn ha pub told c (bgF kn ha pub told c) i
                      unfold bg1
                      rw [bI_T c171]
                      simp only [if_true]
                      rw [if_neg (fun e => c181 e.symm)]
                      exact congrFun (mixF_cg (fun i hi => by rw [Fq.o 48 (by decide) (by decide)]; exact w48.1 i hi) (fun i hi => by rw [Nat.zero_add]; exact x1 i hi)) i
                  have y1 : ∀ q, q ∉ [0, 2, 3, 12, 13, 48, 61] → q ≠ 63 → Jm q = J q := fun q h1 h2 => by rw [m2.o q (by simp at h1 ⊢; omega) h2, Fq.o q (by simp at h1 ⊢; omega) h2]; exact hC q h1 h2
                  have y2 : ∀ j, j ≠ 1 → Jm 63 j = J 63 j := fun j hj => by rw [m2.2 j hj, Fq.2 j hj]; exact h63 j hj
                  have y3 : h13Z Jm := h13Z.o (m2.o 13 (by decide) (by decide)) hz3
                  show hX z 0 0 (T, Jm, K2, R, A) [(2, .int (nI c)), (0, .ref (A 63)), (1, .int (nI s))] 234 []
                  refine x_iinc (v := nI (c + 1)) (lv' := [(2, .int (nI (c + 1))), (0, .ref (A 63)), (1, .int (nI s))]) C dX11_begins_234 0 rfl (nI_inc 1) (Nat.lt_of_lt_of_eq (by decide) hN.symm) rfl ?_
                  refine x_goto (tgt := 151) C dX11_begins_237 (by decide) ?_
                  refine x_sub (lv' := _) [0, 1, 2] rfl ?_
                  exact ih151 (c + 1) Jm K2 (by omega) (by omega) y48 y1 y2 y3
                · refine x_aload_n C dX11_begins_184 1 rfl rfl ?_
                  refine x_aload_n C dX11_begins_185 1 rfl rfl ?_
                  refine x_getrN C fl_X11_228 mO.1 rfl (mO.2.2 51 _ rfl).1 dX11_begins_186 ?_
                  refine x_bipush (v := nI 32) C dX11_begins_189 (by decide +kernel) ?_
                  refine x_iload_n C dX11_begins_191 2 rfl rfl ?_
                  refine x_imulN C dX11_begins_192 ?_
                  refine x_aload_n C dX11_begins_193 1 rfl rfl ?_
                  refine x_getrN C fl_X11_249 mO.1 rfl (mO.2.2 61 _ rfl).1 dX11_begins_194 ?_
                  refine x_iconst (v := nI 0) C dX11_begins_197 (by decide +kernel) ?_
                  refine x_callV C (ok_X11_publicOf mO 51 160 (32 * s) 61 400 0 (mO.2.2 51 _ rfl).2.1 (by decide) (by omega) (by decide) (by decide) (mO.2.2 61 _ rfl).2.1 (mO.2.2 61 _ rfl).2.2 (by decide) (by decide) (by decide) hz2) mv_X11_publicOf ml_X11_398 mO.1 rfl rfl rfl (Nat.le_of_ble_eq_true rfl) (hrm (rm := { frames := 0, cells := 0, slots := 0, locals := 0 }) hZ ⟨Nat.le_of_ble_eq_true rfl, Nat.le_of_ble_eq_true rfl⟩) (hcs hZ ⟨Nat.le_of_ble_eq_true rfl, Nat.le_of_ble_eq_true rfl⟩) dX11_begins_198 (fun v G' hp => ?_)
                  obtain ⟨rfl, Jq, Lq, rfl, v1, v2, v3⟩ := hp
                  have x1 : ∀ j, j < 32 → Jq 61 j = pub j := fun j hj => by rw [v1]; show (if 0 ≤ j ∧ j < 0 + 32 then pubF _ (j - 0) else _) = _; rw [if_pos (by omega), Nat.sub_zero, hk1 (by rw [c181]; exact bI_T c171) j hj]; exact pub_cong (fun i hi => by rw [hC 51 (by decide) (by decide), oC 51 (by decide) (by decide)]; exact hsec i hi) j
                  have Fq : fmS [12, 13, 61] J2 Jq := fmS.of v3 (by decide)
                  have hz3 : h13Z Jq := v2
                  show hX z 0 0 (T, Jq, Lq, R, A) [(2, .int (nI c)), (0, .ref (A 63)), (1, .int (nI s))] 201 []
                  refine x_goto (tgt := 222) C dX11_begins_201 (by decide) ?_
                  refine x_aload_n C dX11_begins_222 1 rfl rfl ?_
                  refine x_iload_n C dX11_begins_223 2 rfl rfl ?_
                  refine x_aload_n C dX11_begins_224 1 rfl rfl ?_
                  refine x_getrN C fl_X11_249 mO.1 rfl (mO.2.2 61 _ rfl).1 dX11_begins_225 ?_
                  refine x_iconst (v := nI 0) C dX11_begins_228 (by decide +kernel) ?_
                  refine x_bipush (v := nI 32) C dX11_begins_229 (by decide +kernel) ?_
                  refine x_callV C (ok_X11_mixHash mO s 61 400 0 32 (Fq.c (by decide) (by decide) hc2).1 (Fq.c (by decide) (by decide) hc2).2 hs5 (mO.2.2 61 _ rfl).2.1 (by decide) (by decide) (by decide) (by decide) (by decide)) mv_X11_mixHash ml_X11_404 mO.1 rfl rfl rfl (Nat.le_of_ble_eq_true rfl) (hrm (rm := { frames := 0, cells := 0, slots := 0, locals := 0 }) hZ ⟨Nat.le_of_ble_eq_true rfl, Nat.le_of_ble_eq_true rfl⟩) (hcs hZ ⟨Nat.le_of_ble_eq_true rfl, Nat.le_of_ble_eq_true rfl⟩) dX11_begins_231 (fun v G' hp => ?_)
                  obtain ⟨rfl, Jm, rfl, m1, m2⟩ := hp
                  have y48 : wRow I Jm 48 s (bgF kn ha pub told (c + 1)) := by
                    have e1 := (wRow.mx (f := bgF kn ha pub told (c + 1)) m1 (fun i hi => ?_))
                    · refine ⟨e1.1, fun j hj => ?_⟩
                      rw [e1.2 j hj, Fq.o 48 (by decide) (by decide)]; exact w48.2 j hj
                    · show _ = bg1 kn ha pub told c (bgF kn ha pub told c) i
                      unfold bg1
                      rw [bI_T c171]
                      simp only [if_true]
                      rw [if_pos c181.symm]
                      exact congrFun (mixF_cg (fun i hi => by rw [Fq.o 48 (by decide) (by decide)]; exact w48.1 i hi) (fun i hi => by rw [Nat.zero_add]; exact x1 i hi)) i
                  have y1 : ∀ q, q ∉ [0, 2, 3, 12, 13, 48, 61] → q ≠ 63 → Jm q = J q := fun q h1 h2 => by rw [m2.o q (by simp at h1 ⊢; omega) h2, Fq.o q (by simp at h1 ⊢; omega) h2]; exact hC q h1 h2
                  have y2 : ∀ j, j ≠ 1 → Jm 63 j = J 63 j := fun j hj => by rw [m2.2 j hj, Fq.2 j hj]; exact h63 j hj
                  have y3 : h13Z Jm := h13Z.o (m2.o 13 (by decide) (by decide)) hz3
                  show hX z 0 0 (T, Jm, Lq, R, A) [(2, .int (nI c)), (0, .ref (A 63)), (1, .int (nI s))] 234 []
                  refine x_iinc (v := nI (c + 1)) (lv' := [(2, .int (nI (c + 1))), (0, .ref (A 63)), (1, .int (nI s))]) C dX11_begins_234 0 rfl (nI_inc 1) (Nat.lt_of_lt_of_eq (by decide) hN.symm) rfl ?_
                  refine x_goto (tgt := 151) C dX11_begins_237 (by decide) ?_
                  refine x_sub (lv' := _) [0, 1, 2] rfl ?_
                  exact ih151 (c + 1) Jm Lq (by omega) (by omega) y48 y1 y2 y3
        refine x_sub (lv' := _) [0, 1, 2] rfl ?_
        exact L151 _ 0 J L (Nat.lt_succ_self _) (by omega) (nm_row h48) (fun _ _ _ => rfl) (fun _ _ => rfl) (h13Z.o (hq 13 (by decide) (by decide)) hz)
      · refine x_aload_n C dX11_begins_113 1 rfl rfl ?_
        refine x_getrN C fl_X11_216 mO.1 rfl (mO.2.2 47 _ rfl).1 dX11_begins_114 ?_
        refine x_bipush (v := nI 32) C dX11_begins_117 (by decide +kernel) ?_
        refine x_iload_n C dX11_begins_119 2 rfl rfl ?_
        refine x_imulN C dX11_begins_120 ?_
        refine x_iload_n C dX11_begins_121 0 rfl rfl ?_
        refine x_iaddN C dX11_begins_122 ?_
        refine x_iload_n C dX11_begins_123 0 rfl rfl ?_
        refine x_callS C (ok_X11_nameByte i (by omega)) ms_X11_nameByte ml_X11_401 rfl rfl (Nat.le_of_ble_eq_true rfl) (hrm (rm := { frames := 0, cells := 0, slots := 0, locals := 0 }) hZ ⟨Nat.le_of_ble_eq_true rfl, Nat.le_of_ble_eq_true rfl⟩) (hcs hZ ⟨Nat.le_of_ble_eq_true rfl, Nat.le_of_ble_eq_true rfl⟩) dX11_begins_124 (fun v G' hp => ?_)
        obtain ⟨rfl, rfl⟩ := hp
        show hX z 0 0 (T, J, L, R, A) [(2, .int (nI i)), (0, .ref (A 63)), (1, .int (nI s))] 127 [.int (nmV i), .int (nI (32 * s + i)), .ref (A 47)]
        refine x_iastN C (mO.2.2 47 _ rfl).2.1 (mO.2.2 47 _ rfl).2.2 (by omega) (by omega) dX11_begins_127 (fun I9 eI9 => ?_)
        refine x_aload_n C dX11_begins_128 1 rfl rfl ?_
        refine x_getrN C fl_X11_219 mO.1 rfl (mO.2.2 48 _ rfl).1 dX11_begins_129 ?_
        refine x_bipush (v := nI 32) C dX11_begins_132 (by decide +kernel) ?_
        refine x_iload_n C dX11_begins_134 2 rfl rfl ?_
        refine x_imulN C dX11_begins_135 ?_
        refine x_iload_n C dX11_begins_136 0 rfl rfl ?_
        refine x_iaddN C dX11_begins_137 ?_
        refine x_iload_n C dX11_begins_138 0 rfl rfl ?_
        refine x_callS C (ok_X11_nameByte i (by omega)) ms_X11_nameByte ml_X11_401 rfl rfl (Nat.le_of_ble_eq_true rfl) (hrm (rm := { frames := 0, cells := 0, slots := 0, locals := 0 }) hZ ⟨Nat.le_of_ble_eq_true rfl, Nat.le_of_ble_eq_true rfl⟩) (hcs hZ ⟨Nat.le_of_ble_eq_true rfl, Nat.le_of_ble_eq_true rfl⟩) dX11_begins_139 (fun v G' hp => ?_)
        obtain ⟨rfl, rfl⟩ := hp
        show hX z 0 0 (T, I9, L, R, A) [(2, .int (nI i)), (0, .ref (A 63)), (1, .int (nI s))] 142 [.int (nmV i), .int (nI (32 * s + i)), .ref (A 48)]
        refine x_iastN C (mO.2.2 48 _ rfl).2.1 (mO.2.2 48 _ rfl).2.2 (by omega) (by omega) dX11_begins_142 (fun I10 eI10 => ?_)
        have s1 := nm_step h47 rfl (show I10 47 = upd (J 47) (32 * s + i) (nmV i) by rw [eI10, va_up_other _ _ (by decide), eI9, va_up_same])
        have s2 := nm_step h48 rfl (show I10 48 = upd (J 48) (32 * s + i) (nmV i) by rw [eI10, va_up_same, eI9, va_up_other _ _ (by decide)])
        have s3 : ∀ q, q ≠ 47 → q ≠ 48 → I10 q = I7 q := fun q h1 h2 => by rw [eI10, va_up_other _ _ h2, eI9, va_up_other _ _ h1]; exact hq q h1 h2
        refine x_iinc (v := nI (i + 1)) (lv' := [(2, .int (nI (i + 1))), (0, .ref (A 63)), (1, .int (nI s))]) C dX11_begins_143 0 rfl (nI_inc 1) (Nat.lt_of_lt_of_eq (by decide) hN.symm) rfl ?_
        refine x_goto (tgt := 107) C dX11_begins_146 (by decide) ?_
        refine x_sub (lv' := _) [0, 1, 2] rfl ?_
        exact ih107 (i + 1) I10 (by omega) (by omega) s1 s2 s3
  refine x_sub (lv' := _) [0, 1, 2] rfl ?_
  exact L107 _ 0 I7 (Nat.lt_succ_self _) (by omega) (by rw [FB.o 47 (by decide) (by decide)]; funext j; rw [if_neg (by omega)]) (by rw [FB.o 48 (by decide) (by decide)]; funext j; rw [if_neg (by omega)]) (fun _ _ _ => rfl)

