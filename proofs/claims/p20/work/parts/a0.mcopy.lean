/-! ===== the model: copySide ===== -/
theorem cpRow {I J : Nat → Nat → Int32} {c t f : Nat} (e : J c = (fun j => if 32 * t ≤ j ∧ j < 32 * t + 32 then I c (32 * f + (j - 32 * t)) else I c j)) : wRow I J c t (fun j => I c (32 * f + j)) := by
  refine ⟨fun i hi => ?_, fun j hj => ?_⟩
  · rw [e]; show (if 32 * t ≤ 32 * t + i ∧ 32 * t + i < 32 * t + 32 then I c (32 * f + (32 * t + i - 32 * t)) else _) = _
    rw [if_pos (by omega), show 32 * t + i - 32 * t = i by omega]
  · rw [e]; show (if 32 * t ≤ j ∧ j < 32 * t + 32 then _ else I c j) = _
    rw [if_neg hj]
set_option maxHeartbeats 4000000 in
set_option maxRecDepth 100000 in
theorem ok_X11_copySide {l : Launch} {a0 : Nat} {D : va_G} {sa : Nat → Nat} {T : Nat → Option hKd} {I : Nat → Nat → Int32} {L : Nat → Nat → Int64} {R : Nat → Nat → Option Nat} {A : Nat → Nat} (mO : isM T R A a0) (to fr : Nat) (hto : to < 5) (hfr : fr < 5) (hne : to ≠ fr) (hz : ∀ q, q ∈ [41, 42, 45, 46] → I q fr = 0 ∨ I q fr = 1) : hM l a0 D sa yX11_copySide cX11_copySide 5 none { frames := 1, cells := 0, slots := 0, locals := 25 } [.ref (A 63), .int (nI to), .int (nI fr)] (T, I, L, R, A) (fun r G' => r = none ∧ ∃ I', G' = (T, I', L, R, A) ∧ (∀ (σ : sgT) (dn : Bool), mdE σ I fr dn → mdE σ I' to dn) ∧ mF 5 to I I' ∧ fx [39, 40, 41, 42, 43, 44, 45, 46, 47, 48, 49, 50, 52, 53, 54] I I') := by
  refine hM.of (by decide +kernel) (Nat.le_of_ble_eq_true rfl) ?_
  intro z hl h0 hD hS hN C E
  subst hl; subst h0; subst hD; subst hS
  have C : hC z RX11 cX11_copySide := C
  have hZ := E.2.2.2.1
  show hX z 0 0 (T, I, L, R, A) [(0, .ref (A 63)), (1, .int (nI to)), (2, .int (nI fr))] 0 []
  refine x_aload_n C dX11_copySide_0 0 rfl rfl ?_
  refine x_getrN C fl_X11_192 mO.1 rfl (mO.2.2 39 _ rfl).1 dX11_copySide_1 ?_
  refine x_iload_n C dX11_copySide_4 1 rfl rfl ?_
  refine x_aload_n C dX11_copySide_5 0 rfl rfl ?_
  refine x_getrN C fl_X11_192 mO.1 rfl (mO.2.2 39 _ rfl).1 dX11_copySide_6 ?_
  refine x_iload_n C dX11_copySide_9 2 rfl rfl ?_
  refine x_ialdN C (mO.2.2 39 _ rfl).2.1 (by omega) (by omega) dX11_copySide_10 ?_
  refine x_iastN C (mO.2.2 39 _ rfl).2.1 (mO.2.2 39 _ rfl).2.2 (by omega) (by omega) dX11_copySide_11 (fun I1 eI1 => ?_)
  have f_I1 : fx [39] I I1 := by rw [eI1]; exact fx.rf.up (by simp)
  refine x_aload_n C dX11_copySide_12 0 rfl rfl ?_
  refine x_getrN C fl_X11_195 mO.1 rfl (mO.2.2 40 _ rfl).1 dX11_copySide_13 ?_
  refine x_iload_n C dX11_copySide_16 1 rfl rfl ?_
  refine x_aload_n C dX11_copySide_17 0 rfl rfl ?_
  refine x_getrN C fl_X11_195 mO.1 rfl (mO.2.2 40 _ rfl).1 dX11_copySide_18 ?_
  refine x_iload_n C dX11_copySide_21 2 rfl rfl ?_
  refine x_ialdN C (mO.2.2 40 _ rfl).2.1 (by omega) (by omega) dX11_copySide_22 ?_
  refine x_eqi (y := I 40 fr) (by rw [f_I1 40 (by decide)]) ?_
  refine x_iastN C (mO.2.2 40 _ rfl).2.1 (mO.2.2 40 _ rfl).2.2 (by omega) (by omega) dX11_copySide_23 (fun I2 eI2 => ?_)
  have f_I2 : fx [39, 40] I I2 := by rw [eI2]; exact (fx.wk (U := [39, 40]) (f_I1) (by simp)).up (by simp)
  refine x_aload_n C dX11_copySide_24 0 rfl rfl ?_
  refine x_getrN C fl_X11_198 mO.1 rfl (mO.2.2 41 _ rfl).1 dX11_copySide_25 ?_
  refine x_iload_n C dX11_copySide_28 1 rfl rfl ?_
  refine x_aload_n C dX11_copySide_29 0 rfl rfl ?_
  refine x_getrN C fl_X11_198 mO.1 rfl (mO.2.2 41 _ rfl).1 dX11_copySide_30 ?_
  refine x_iload_n C dX11_copySide_33 2 rfl rfl ?_
  refine x_zaldN C (mO.2.2 41 _ rfl).2.1 (by omega) (by omega) dX11_copySide_34 ?_
  refine x_eqi (y := I 41 fr) (by rw [f_I2 41 (by decide)]) ?_
  refine x_zastN C (mO.2.2 41 _ rfl).2.1 (mO.2.2 41 _ rfl).2.2 (by omega) (by omega) (hz _ (by decide)) dX11_copySide_35 (fun I3 eI3 => ?_)
  have f_I3 : fx [39, 40, 41] I I3 := by rw [eI3]; exact (fx.wk (U := [39, 40, 41]) (f_I2) (by simp)).up (by simp)
  refine x_aload_n C dX11_copySide_36 0 rfl rfl ?_
  refine x_getrN C fl_X11_201 mO.1 rfl (mO.2.2 42 _ rfl).1 dX11_copySide_37 ?_
  refine x_iload_n C dX11_copySide_40 1 rfl rfl ?_
  refine x_aload_n C dX11_copySide_41 0 rfl rfl ?_
  refine x_getrN C fl_X11_201 mO.1 rfl (mO.2.2 42 _ rfl).1 dX11_copySide_42 ?_
  refine x_iload_n C dX11_copySide_45 2 rfl rfl ?_
  refine x_zaldN C (mO.2.2 42 _ rfl).2.1 (by omega) (by omega) dX11_copySide_46 ?_
  refine x_eqi (y := I 42 fr) (by rw [f_I3 42 (by decide)]) ?_
  refine x_zastN C (mO.2.2 42 _ rfl).2.1 (mO.2.2 42 _ rfl).2.2 (by omega) (by omega) (hz _ (by decide)) dX11_copySide_47 (fun I4 eI4 => ?_)
  have f_I4 : fx [39, 40, 41, 42] I I4 := by rw [eI4]; exact (fx.wk (U := [39, 40, 41, 42]) (f_I3) (by simp)).up (by simp)
  refine x_aload_n C dX11_copySide_48 0 rfl rfl ?_
  refine x_getrN C fl_X11_204 mO.1 rfl (mO.2.2 43 _ rfl).1 dX11_copySide_49 ?_
  refine x_iload_n C dX11_copySide_52 1 rfl rfl ?_
  refine x_aload_n C dX11_copySide_53 0 rfl rfl ?_
  refine x_getrN C fl_X11_204 mO.1 rfl (mO.2.2 43 _ rfl).1 dX11_copySide_54 ?_
  refine x_iload_n C dX11_copySide_57 2 rfl rfl ?_
  refine x_ialdN C (mO.2.2 43 _ rfl).2.1 (by omega) (by omega) dX11_copySide_58 ?_
  refine x_eqi (y := I 43 fr) (by rw [f_I4 43 (by decide)]) ?_
  refine x_iastN C (mO.2.2 43 _ rfl).2.1 (mO.2.2 43 _ rfl).2.2 (by omega) (by omega) dX11_copySide_59 (fun I5 eI5 => ?_)
  have f_I5 : fx [39, 40, 41, 42, 43] I I5 := by rw [eI5]; exact (fx.wk (U := [39, 40, 41, 42, 43]) (f_I4) (by simp)).up (by simp)
  refine x_aload_n C dX11_copySide_60 0 rfl rfl ?_
  refine x_getrN C fl_X11_207 mO.1 rfl (mO.2.2 44 _ rfl).1 dX11_copySide_61 ?_
  refine x_iload_n C dX11_copySide_64 1 rfl rfl ?_
  refine x_aload_n C dX11_copySide_65 0 rfl rfl ?_
  refine x_getrN C fl_X11_207 mO.1 rfl (mO.2.2 44 _ rfl).1 dX11_copySide_66 ?_
  refine x_iload_n C dX11_copySide_69 2 rfl rfl ?_
  refine x_ialdN C (mO.2.2 44 _ rfl).2.1 (by omega) (by omega) dX11_copySide_70 ?_
  refine x_eqi (y := I 44 fr) (by rw [f_I5 44 (by decide)]) ?_
  refine x_iastN C (mO.2.2 44 _ rfl).2.1 (mO.2.2 44 _ rfl).2.2 (by omega) (by omega) dX11_copySide_71 (fun I6 eI6 => ?_)
  have f_I6 : fx [39, 40, 41, 42, 43, 44] I I6 := by rw [eI6]; exact (fx.wk (U := [39, 40, 41, 42, 43, 44]) (f_I5) (by simp)).up (by simp)
  refine x_aload_n C dX11_copySide_72 0 rfl rfl ?_
  refine x_getrN C fl_X11_210 mO.1 rfl (mO.2.2 45 _ rfl).1 dX11_copySide_73 ?_
  refine x_iload_n C dX11_copySide_76 1 rfl rfl ?_
  refine x_aload_n C dX11_copySide_77 0 rfl rfl ?_
  refine x_getrN C fl_X11_210 mO.1 rfl (mO.2.2 45 _ rfl).1 dX11_copySide_78 ?_
  refine x_iload_n C dX11_copySide_81 2 rfl rfl ?_
  refine x_zaldN C (mO.2.2 45 _ rfl).2.1 (by omega) (by omega) dX11_copySide_82 ?_
  refine x_eqi (y := I 45 fr) (by rw [f_I6 45 (by decide)]) ?_
  refine x_zastN C (mO.2.2 45 _ rfl).2.1 (mO.2.2 45 _ rfl).2.2 (by omega) (by omega) (hz _ (by decide)) dX11_copySide_83 (fun I7 eI7 => ?_)
  have f_I7 : fx [39, 40, 41, 42, 43, 44, 45] I I7 := by rw [eI7]; exact (fx.wk (U := [39, 40, 41, 42, 43, 44, 45]) (f_I6) (by simp)).up (by simp)
  refine x_aload_n C dX11_copySide_84 0 rfl rfl ?_
  refine x_getrN C fl_X11_213 mO.1 rfl (mO.2.2 46 _ rfl).1 dX11_copySide_85 ?_
  refine x_iload_n C dX11_copySide_88 1 rfl rfl ?_
  refine x_aload_n C dX11_copySide_89 0 rfl rfl ?_
  refine x_getrN C fl_X11_213 mO.1 rfl (mO.2.2 46 _ rfl).1 dX11_copySide_90 ?_
  refine x_iload_n C dX11_copySide_93 2 rfl rfl ?_
  refine x_zaldN C (mO.2.2 46 _ rfl).2.1 (by omega) (by omega) dX11_copySide_94 ?_
  refine x_eqi (y := I 46 fr) (by rw [f_I7 46 (by decide)]) ?_
  refine x_zastN C (mO.2.2 46 _ rfl).2.1 (mO.2.2 46 _ rfl).2.2 (by omega) (by omega) (hz _ (by decide)) dX11_copySide_95 (fun I8 eI8 => ?_)
  have f_I8 : fx [39, 40, 41, 42, 43, 44, 45, 46] I I8 := by rw [eI8]; exact (fx.wk (U := [39, 40, 41, 42, 43, 44, 45, 46]) (f_I7) (by simp)).up (by simp)
  refine x_bipush (v := nI 32) C dX11_copySide_96 (by decide +kernel) ?_
  refine x_iload_n C dX11_copySide_98 2 rfl rfl ?_
  refine x_imulN C dX11_copySide_99 ?_
  refine x_istore_n (lv' := [(3, .int (nI (32 * fr))), (0, .ref (A 63)), (1, .int (nI to)), (2, .int (nI fr))]) C dX11_copySide_100 rfl (Nat.lt_of_lt_of_eq (by decide) hN.symm) rfl ?_
  refine x_bipush (v := nI 32) C dX11_copySide_101 (by decide +kernel) ?_
  refine x_iload_n C dX11_copySide_103 2 rfl rfl ?_
  refine x_imulN C dX11_copySide_104 ?_
  refine x_istore (lv' := [(4, .int (nI (32 * to))), (3, .int (nI (32 * fr))), (0, .ref (A 63)), (1, .int (nI to)), (2, .int (nI fr))]) C dX11_copySide_105 (Nat.lt_of_lt_of_eq (by decide) hN.symm) rfl ?_
  refine x_aload_n C dX11_copySide_107 2 rfl rfl ?_
  refine x_getrN C fl_X11_216 mO.1 rfl (mO.2.2 47 _ rfl).1 dX11_copySide_108 ?_
  refine x_iload_n C dX11_copySide_111 1 rfl rfl ?_
  refine x_aload_n C dX11_copySide_112 2 rfl rfl ?_
  refine x_getrN C fl_X11_216 mO.1 rfl (mO.2.2 47 _ rfl).1 dX11_copySide_113 ?_
  refine x_iload C dX11_copySide_116 0 rfl ?_
  refine x_bipush (v := nI 32) C dX11_copySide_118 (by decide +kernel) ?_
  refine x_callS C (ok_X11_copy 47 47 (32 * fr) (32 * to) 32 160 160 (mO.2.2 47 _ rfl).2.1 (mO.2.2 47 _ rfl).2.1 (mO.2.2 47 _ rfl).2.2 (by omega) (by omega) (by decide) (by decide) (fun _ => by omega)) ms_X11_copy ml_X11_270 rfl rfl (Nat.le_of_ble_eq_true rfl) (hrm (rm := { frames := 0, cells := 0, slots := 0, locals := 0 }) hZ ⟨Nat.le_of_ble_eq_true rfl, Nat.le_of_ble_eq_true rfl⟩) (hcs hZ ⟨Nat.le_of_ble_eq_true rfl, Nat.le_of_ble_eq_true rfl⟩) dX11_copySide_120 (fun v G' hp => ?_)
  obtain ⟨rfl, rfl⟩ := hp
  generalize eI9 : va_up I8 47 (fun j => if (32 * to) ≤ j ∧ j < (32 * to) + 32 then I8 47 ((32 * fr) + (j - (32 * to))) else I8 47 j) = I9
  have eI9 := eI9.symm
  have f_I9 : fx [39, 40, 41, 42, 43, 44, 45, 46, 47] I I9 := by rw [eI9]; exact (fx.wk (U := [39, 40, 41, 42, 43, 44, 45, 46, 47]) f_I8 (by simp)).up (by simp)
  show hX z 0 0 (T, I9, L, R, A) [(4, .int (nI (32 * to))), (3, .int (nI (32 * fr))), (0, .ref (A 63)), (1, .int (nI to)), (2, .int (nI fr))] 123 []
  refine x_aload_n C dX11_copySide_123 2 rfl rfl ?_
  refine x_getrN C fl_X11_219 mO.1 rfl (mO.2.2 48 _ rfl).1 dX11_copySide_124 ?_
  refine x_iload_n C dX11_copySide_127 1 rfl rfl ?_
  refine x_aload_n C dX11_copySide_128 2 rfl rfl ?_
  refine x_getrN C fl_X11_219 mO.1 rfl (mO.2.2 48 _ rfl).1 dX11_copySide_129 ?_
  refine x_iload C dX11_copySide_132 0 rfl ?_
  refine x_bipush (v := nI 32) C dX11_copySide_134 (by decide +kernel) ?_
  refine x_callS C (ok_X11_copy 48 48 (32 * fr) (32 * to) 32 160 160 (mO.2.2 48 _ rfl).2.1 (mO.2.2 48 _ rfl).2.1 (mO.2.2 48 _ rfl).2.2 (by omega) (by omega) (by decide) (by decide) (fun _ => by omega)) ms_X11_copy ml_X11_270 rfl rfl (Nat.le_of_ble_eq_true rfl) (hrm (rm := { frames := 0, cells := 0, slots := 0, locals := 0 }) hZ ⟨Nat.le_of_ble_eq_true rfl, Nat.le_of_ble_eq_true rfl⟩) (hcs hZ ⟨Nat.le_of_ble_eq_true rfl, Nat.le_of_ble_eq_true rfl⟩) dX11_copySide_136 (fun v G' hp => ?_)
  obtain ⟨rfl, rfl⟩ := hp
  generalize eI10 : va_up I9 48 (fun j => if (32 * to) ≤ j ∧ j < (32 * to) + 32 then I9 48 ((32 * fr) + (j - (32 * to))) else I9 48 j) = I10
  have eI10 := eI10.symm
  have f_I10 : fx [39, 40, 41, 42, 43, 44, 45, 46, 47, 48] I I10 := by rw [eI10]; exact (fx.wk (U := [39, 40, 41, 42, 43, 44, 45, 46, 47, 48]) f_I9 (by simp)).up (by simp)
  show hX z 0 0 (T, I10, L, R, A) [(4, .int (nI (32 * to))), (3, .int (nI (32 * fr))), (0, .ref (A 63)), (1, .int (nI to)), (2, .int (nI fr))] 139 []
  refine x_aload_n C dX11_copySide_139 2 rfl rfl ?_
  refine x_getrN C fl_X11_222 mO.1 rfl (mO.2.2 49 _ rfl).1 dX11_copySide_140 ?_
  refine x_iload_n C dX11_copySide_143 1 rfl rfl ?_
  refine x_aload_n C dX11_copySide_144 2 rfl rfl ?_
  refine x_getrN C fl_X11_222 mO.1 rfl (mO.2.2 49 _ rfl).1 dX11_copySide_145 ?_
  refine x_iload C dX11_copySide_148 0 rfl ?_
  refine x_bipush (v := nI 32) C dX11_copySide_150 (by decide +kernel) ?_
  refine x_callS C (ok_X11_copy 49 49 (32 * fr) (32 * to) 32 160 160 (mO.2.2 49 _ rfl).2.1 (mO.2.2 49 _ rfl).2.1 (mO.2.2 49 _ rfl).2.2 (by omega) (by omega) (by decide) (by decide) (fun _ => by omega)) ms_X11_copy ml_X11_270 rfl rfl (Nat.le_of_ble_eq_true rfl) (hrm (rm := { frames := 0, cells := 0, slots := 0, locals := 0 }) hZ ⟨Nat.le_of_ble_eq_true rfl, Nat.le_of_ble_eq_true rfl⟩) (hcs hZ ⟨Nat.le_of_ble_eq_true rfl, Nat.le_of_ble_eq_true rfl⟩) dX11_copySide_152 (fun v G' hp => ?_)
  obtain ⟨rfl, rfl⟩ := hp
  generalize eI11 : va_up I10 49 (fun j => if (32 * to) ≤ j ∧ j < (32 * to) + 32 then I10 49 ((32 * fr) + (j - (32 * to))) else I10 49 j) = I11
  have eI11 := eI11.symm
  have f_I11 : fx [39, 40, 41, 42, 43, 44, 45, 46, 47, 48, 49] I I11 := by rw [eI11]; exact (fx.wk (U := [39, 40, 41, 42, 43, 44, 45, 46, 47, 48, 49]) f_I10 (by simp)).up (by simp)
  show hX z 0 0 (T, I11, L, R, A) [(4, .int (nI (32 * to))), (3, .int (nI (32 * fr))), (0, .ref (A 63)), (1, .int (nI to)), (2, .int (nI fr))] 155 []
  refine x_aload_n C dX11_copySide_155 2 rfl rfl ?_
  refine x_getrN C fl_X11_225 mO.1 rfl (mO.2.2 50 _ rfl).1 dX11_copySide_156 ?_
  refine x_iload_n C dX11_copySide_159 1 rfl rfl ?_
  refine x_aload_n C dX11_copySide_160 2 rfl rfl ?_
  refine x_getrN C fl_X11_225 mO.1 rfl (mO.2.2 50 _ rfl).1 dX11_copySide_161 ?_
  refine x_iload C dX11_copySide_164 0 rfl ?_
  refine x_bipush (v := nI 32) C dX11_copySide_166 (by decide +kernel) ?_
  refine x_callS C (ok_X11_copy 50 50 (32 * fr) (32 * to) 32 160 160 (mO.2.2 50 _ rfl).2.1 (mO.2.2 50 _ rfl).2.1 (mO.2.2 50 _ rfl).2.2 (by omega) (by omega) (by decide) (by decide) (fun _ => by omega)) ms_X11_copy ml_X11_270 rfl rfl (Nat.le_of_ble_eq_true rfl) (hrm (rm := { frames := 0, cells := 0, slots := 0, locals := 0 }) hZ ⟨Nat.le_of_ble_eq_true rfl, Nat.le_of_ble_eq_true rfl⟩) (hcs hZ ⟨Nat.le_of_ble_eq_true rfl, Nat.le_of_ble_eq_true rfl⟩) dX11_copySide_168 (fun v G' hp => ?_)
  obtain ⟨rfl, rfl⟩ := hp
  generalize eI12 : va_up I11 50 (fun j => if (32 * to) ≤ j ∧ j < (32 * to) + 32 then I11 50 ((32 * fr) + (j - (32 * to))) else I11 50 j) = I12
  have eI12 := eI12.symm
  have f_I12 : fx [39, 40, 41, 42, 43, 44, 45, 46, 47, 48, 49, 50] I I12 := by rw [eI12]; exact (fx.wk (U := [39, 40, 41, 42, 43, 44, 45, 46, 47, 48, 49, 50]) f_I11 (by simp)).up (by simp)
  show hX z 0 0 (T, I12, L, R, A) [(4, .int (nI (32 * to))), (3, .int (nI (32 * fr))), (0, .ref (A 63)), (1, .int (nI to)), (2, .int (nI fr))] 171 []
  refine x_aload_n C dX11_copySide_171 2 rfl rfl ?_
  refine x_getrN C fl_X11_231 mO.1 rfl (mO.2.2 52 _ rfl).1 dX11_copySide_172 ?_
  refine x_iload_n C dX11_copySide_175 1 rfl rfl ?_
  refine x_aload_n C dX11_copySide_176 2 rfl rfl ?_
  refine x_getrN C fl_X11_231 mO.1 rfl (mO.2.2 52 _ rfl).1 dX11_copySide_177 ?_
  refine x_iload C dX11_copySide_180 0 rfl ?_
  refine x_bipush (v := nI 32) C dX11_copySide_182 (by decide +kernel) ?_
  refine x_callS C (ok_X11_copy 52 52 (32 * fr) (32 * to) 32 160 160 (mO.2.2 52 _ rfl).2.1 (mO.2.2 52 _ rfl).2.1 (mO.2.2 52 _ rfl).2.2 (by omega) (by omega) (by decide) (by decide) (fun _ => by omega)) ms_X11_copy ml_X11_270 rfl rfl (Nat.le_of_ble_eq_true rfl) (hrm (rm := { frames := 0, cells := 0, slots := 0, locals := 0 }) hZ ⟨Nat.le_of_ble_eq_true rfl, Nat.le_of_ble_eq_true rfl⟩) (hcs hZ ⟨Nat.le_of_ble_eq_true rfl, Nat.le_of_ble_eq_true rfl⟩) dX11_copySide_184 (fun v G' hp => ?_)
  obtain ⟨rfl, rfl⟩ := hp
  generalize eI13 : va_up I12 52 (fun j => if (32 * to) ≤ j ∧ j < (32 * to) + 32 then I12 52 ((32 * fr) + (j - (32 * to))) else I12 52 j) = I13
  have eI13 := eI13.symm
  have f_I13 : fx [39, 40, 41, 42, 43, 44, 45, 46, 47, 48, 49, 50, 52] I I13 := by rw [eI13]; exact (fx.wk (U := [39, 40, 41, 42, 43, 44, 45, 46, 47, 48, 49, 50, 52]) f_I12 (by simp)).up (by simp)
  show hX z 0 0 (T, I13, L, R, A) [(4, .int (nI (32 * to))), (3, .int (nI (32 * fr))), (0, .ref (A 63)), (1, .int (nI to)), (2, .int (nI fr))] 187 []
  refine x_aload_n C dX11_copySide_187 2 rfl rfl ?_
  refine x_getrN C fl_X11_234 mO.1 rfl (mO.2.2 53 _ rfl).1 dX11_copySide_188 ?_
  refine x_iload_n C dX11_copySide_191 1 rfl rfl ?_
  refine x_aload_n C dX11_copySide_192 2 rfl rfl ?_
  refine x_getrN C fl_X11_234 mO.1 rfl (mO.2.2 53 _ rfl).1 dX11_copySide_193 ?_
  refine x_iload C dX11_copySide_196 0 rfl ?_
  refine x_bipush (v := nI 32) C dX11_copySide_198 (by decide +kernel) ?_
  refine x_callS C (ok_X11_copy 53 53 (32 * fr) (32 * to) 32 160 160 (mO.2.2 53 _ rfl).2.1 (mO.2.2 53 _ rfl).2.1 (mO.2.2 53 _ rfl).2.2 (by omega) (by omega) (by decide) (by decide) (fun _ => by omega)) ms_X11_copy ml_X11_270 rfl rfl (Nat.le_of_ble_eq_true rfl) (hrm (rm := { frames := 0, cells := 0, slots := 0, locals := 0 }) hZ ⟨Nat.le_of_ble_eq_true rfl, Nat.le_of_ble_eq_true rfl⟩) (hcs hZ ⟨Nat.le_of_ble_eq_true rfl, Nat.le_of_ble_eq_true rfl⟩) dX11_copySide_200 (fun v G' hp => ?_)
  obtain ⟨rfl, rfl⟩ := hp
  generalize eI14 : va_up I13 53 (fun j => if (32 * to) ≤ j ∧ j < (32 * to) + 32 then I13 53 ((32 * fr) + (j - (32 * to))) else I13 53 j) = I14
  have eI14 := eI14.symm
  have f_I14 : fx [39, 40, 41, 42, 43, 44, 45, 46, 47, 48, 49, 50, 52, 53] I I14 := by rw [eI14]; exact (fx.wk (U := [39, 40, 41, 42, 43, 44, 45, 46, 47, 48, 49, 50, 52, 53]) f_I13 (by simp)).up (by simp)
  show hX z 0 0 (T, I14, L, R, A) [(4, .int (nI (32 * to))), (3, .int (nI (32 * fr))), (0, .ref (A 63)), (1, .int (nI to)), (2, .int (nI fr))] 203 []
  refine x_aload_n C dX11_copySide_203 2 rfl rfl ?_
  refine x_getrN C fl_X11_237 mO.1 rfl (mO.2.2 54 _ rfl).1 dX11_copySide_204 ?_
  refine x_iload_n C dX11_copySide_207 1 rfl rfl ?_
  refine x_aload_n C dX11_copySide_208 2 rfl rfl ?_
  refine x_getrN C fl_X11_237 mO.1 rfl (mO.2.2 54 _ rfl).1 dX11_copySide_209 ?_
  refine x_iload C dX11_copySide_212 0 rfl ?_
  refine x_bipush (v := nI 32) C dX11_copySide_214 (by decide +kernel) ?_
  refine x_callS C (ok_X11_copy 54 54 (32 * fr) (32 * to) 32 160 160 (mO.2.2 54 _ rfl).2.1 (mO.2.2 54 _ rfl).2.1 (mO.2.2 54 _ rfl).2.2 (by omega) (by omega) (by decide) (by decide) (fun _ => by omega)) ms_X11_copy ml_X11_270 rfl rfl (Nat.le_of_ble_eq_true rfl) (hrm (rm := { frames := 0, cells := 0, slots := 0, locals := 0 }) hZ ⟨Nat.le_of_ble_eq_true rfl, Nat.le_of_ble_eq_true rfl⟩) (hcs hZ ⟨Nat.le_of_ble_eq_true rfl, Nat.le_of_ble_eq_true rfl⟩) dX11_copySide_216 (fun v G' hp => ?_)
  obtain ⟨rfl, rfl⟩ := hp
  generalize eI15 : va_up I14 54 (fun j => if (32 * to) ≤ j ∧ j < (32 * to) + 32 then I14 54 ((32 * fr) + (j - (32 * to))) else I14 54 j) = I15
  have eI15 := eI15.symm
  have f_I15 : fx [39, 40, 41, 42, 43, 44, 45, 46, 47, 48, 49, 50, 52, 53, 54] I I15 := by rw [eI15]; exact (fx.wk (U := [39, 40, 41, 42, 43, 44, 45, 46, 47, 48, 49, 50, 52, 53, 54]) f_I14 (by simp)).up (by simp)
  show hX z 0 0 (T, I15, L, R, A) [(4, .int (nI (32 * to))), (3, .int (nI (32 * fr))), (0, .ref (A 63)), (1, .int (nI to)), (2, .int (nI fr))] 219 []
  exact x_vret C E (Nat.le_of_ble_eq_true rfl) (Nat.le_of_ble_eq_true rfl) dX11_copySide_219 (by
      have g39 : I15 39 = upd (I 39) to (I 39 fr) := by rw [eI15, va_up_other _ _ (by decide), eI14, va_up_other _ _ (by decide), eI13, va_up_other _ _ (by decide), eI12, va_up_other _ _ (by decide), eI11, va_up_other _ _ (by decide), eI10, va_up_other _ _ (by decide), eI9, va_up_other _ _ (by decide), eI8, va_up_other _ _ (by decide), eI7, va_up_other _ _ (by decide), eI6, va_up_other _ _ (by decide), eI5, va_up_other _ _ (by decide), eI4, va_up_other _ _ (by decide), eI3, va_up_other _ _ (by decide), eI2, va_up_other _ _ (by decide), eI1, va_up_same]
      have g40 : I15 40 = upd (I 40) to (I 40 fr) := by rw [eI15, va_up_other _ _ (by decide), eI14, va_up_other _ _ (by decide), eI13, va_up_other _ _ (by decide), eI12, va_up_other _ _ (by decide), eI11, va_up_other _ _ (by decide), eI10, va_up_other _ _ (by decide), eI9, va_up_other _ _ (by decide), eI8, va_up_other _ _ (by decide), eI7, va_up_other _ _ (by decide), eI6, va_up_other _ _ (by decide), eI5, va_up_other _ _ (by decide), eI4, va_up_other _ _ (by decide), eI3, va_up_other _ _ (by decide), eI2, va_up_same, f_I1 40 (by decide)]
      have g41 : I15 41 = upd (I 41) to (I 41 fr) := by rw [eI15, va_up_other _ _ (by decide), eI14, va_up_other _ _ (by decide), eI13, va_up_other _ _ (by decide), eI12, va_up_other _ _ (by decide), eI11, va_up_other _ _ (by decide), eI10, va_up_other _ _ (by decide), eI9, va_up_other _ _ (by decide), eI8, va_up_other _ _ (by decide), eI7, va_up_other _ _ (by decide), eI6, va_up_other _ _ (by decide), eI5, va_up_other _ _ (by decide), eI4, va_up_other _ _ (by decide), eI3, va_up_same, f_I2 41 (by decide)]
      have g42 : I15 42 = upd (I 42) to (I 42 fr) := by rw [eI15, va_up_other _ _ (by decide), eI14, va_up_other _ _ (by decide), eI13, va_up_other _ _ (by decide), eI12, va_up_other _ _ (by decide), eI11, va_up_other _ _ (by decide), eI10, va_up_other _ _ (by decide), eI9, va_up_other _ _ (by decide), eI8, va_up_other _ _ (by decide), eI7, va_up_other _ _ (by decide), eI6, va_up_other _ _ (by decide), eI5, va_up_other _ _ (by decide), eI4, va_up_same, f_I3 42 (by decide)]
      have g43 : I15 43 = upd (I 43) to (I 43 fr) := by rw [eI15, va_up_other _ _ (by decide), eI14, va_up_other _ _ (by decide), eI13, va_up_other _ _ (by decide), eI12, va_up_other _ _ (by decide), eI11, va_up_other _ _ (by decide), eI10, va_up_other _ _ (by decide), eI9, va_up_other _ _ (by decide), eI8, va_up_other _ _ (by decide), eI7, va_up_other _ _ (by decide), eI6, va_up_other _ _ (by decide), eI5, va_up_same, f_I4 43 (by decide)]
      have g44 : I15 44 = upd (I 44) to (I 44 fr) := by rw [eI15, va_up_other _ _ (by decide), eI14, va_up_other _ _ (by decide), eI13, va_up_other _ _ (by decide), eI12, va_up_other _ _ (by decide), eI11, va_up_other _ _ (by decide), eI10, va_up_other _ _ (by decide), eI9, va_up_other _ _ (by decide), eI8, va_up_other _ _ (by decide), eI7, va_up_other _ _ (by decide), eI6, va_up_same, f_I5 44 (by decide)]
      have g45 : I15 45 = upd (I 45) to (I 45 fr) := by rw [eI15, va_up_other _ _ (by decide), eI14, va_up_other _ _ (by decide), eI13, va_up_other _ _ (by decide), eI12, va_up_other _ _ (by decide), eI11, va_up_other _ _ (by decide), eI10, va_up_other _ _ (by decide), eI9, va_up_other _ _ (by decide), eI8, va_up_other _ _ (by decide), eI7, va_up_same, f_I6 45 (by decide)]
      have g46 : I15 46 = upd (I 46) to (I 46 fr) := by rw [eI15, va_up_other _ _ (by decide), eI14, va_up_other _ _ (by decide), eI13, va_up_other _ _ (by decide), eI12, va_up_other _ _ (by decide), eI11, va_up_other _ _ (by decide), eI10, va_up_other _ _ (by decide), eI9, va_up_other _ _ (by decide), eI8, va_up_same, f_I7 46 (by decide)]
      have w47 : wRow I I15 47 to (fun j => I 47 (32 * fr + j)) := by
        refine cpRow (by rw [eI15, va_up_other _ _ (by decide), eI14, va_up_other _ _ (by decide), eI13, va_up_other _ _ (by decide), eI12, va_up_other _ _ (by decide), eI11, va_up_other _ _ (by decide), eI10, va_up_other _ _ (by decide), eI9, va_up_same, f_I8 47 (by decide)])
      have w48 : wRow I I15 48 to (fun j => I 48 (32 * fr + j)) := by
        refine cpRow (by rw [eI15, va_up_other _ _ (by decide), eI14, va_up_other _ _ (by decide), eI13, va_up_other _ _ (by decide), eI12, va_up_other _ _ (by decide), eI11, va_up_other _ _ (by decide), eI10, va_up_same, f_I9 48 (by decide)])
      have w49 : wRow I I15 49 to (fun j => I 49 (32 * fr + j)) := by
        refine cpRow (by rw [eI15, va_up_other _ _ (by decide), eI14, va_up_other _ _ (by decide), eI13, va_up_other _ _ (by decide), eI12, va_up_other _ _ (by decide), eI11, va_up_same, f_I10 49 (by decide)])
      have w50 : wRow I I15 50 to (fun j => I 50 (32 * fr + j)) := by
        refine cpRow (by rw [eI15, va_up_other _ _ (by decide), eI14, va_up_other _ _ (by decide), eI13, va_up_other _ _ (by decide), eI12, va_up_same, f_I11 50 (by decide)])
      have w52 : wRow I I15 52 to (fun j => I 52 (32 * fr + j)) := by
        refine cpRow (by rw [eI15, va_up_other _ _ (by decide), eI14, va_up_other _ _ (by decide), eI13, va_up_same, f_I12 52 (by decide)])
      have w53 : wRow I I15 53 to (fun j => I 53 (32 * fr + j)) := by
        refine cpRow (by rw [eI15, va_up_other _ _ (by decide), eI14, va_up_same, f_I13 53 (by decide)])
      have w54 : wRow I I15 54 to (fun j => I 54 (32 * fr + j)) := by
        refine cpRow (by rw [eI15, va_up_same, f_I14 54 (by decide)])
      have fF : fx [39, 40, 41, 42, 43, 44, 45, 46, 47, 48, 49, 50, 52, 53, 54] I I15 := f_I15.wk (by simp)
      have v : ∀ q, I15 q = upd (I q) to (I q fr) → I15 q to = I q fr := fun q e => by rw [e]; simp [upd]
      have r : ∀ q f, wRow I I15 q to (fun j => I q (32 * fr + j)) → mR I q fr f → mR I15 q to f := fun q f w m j hj => (w.1 j hj).trans (m j hj)
      refine ⟨rfl, I15, rfl, fun σ dn h => ?_, ?_, fF⟩
      · obtain ⟨h1, h2, h3, h4, h5, h6, h7, ⟨q1, q2, q3, q4, q5, q6⟩, h9, h10⟩ := h
        exact ⟨r _ _ w47 h1, r _ _ w48 h2, r _ _ w49 h3, r _ _ w50 h4, r _ _ w52 h5, r _ _ w54 h6, fun e => r _ _ w53 (h7 e), ⟨(v _ g42).trans q1, (v _ g45).trans q2, (v _ g46).trans q3, (v _ g43).trans q4, (v _ g39).trans q5, (v _ g40).trans q6⟩, fun e => (v _ g44).trans (h9 e), (v _ g41).trans h10⟩
      · refine mF.fm (fmS.of fF (by decide)) (by decide) (h13Z.o (fF 13 (by decide))) (fun q h1 h2 h3 => ?_)
        simp at h1
        rcases h1 with rfl | rfl | rfl | rfl | rfl | rfl | rfl | rfl | rfl | rfl | rfl | rfl | rfl | rfl | rfl
        all_goals first | exact sdO.fld (by assumption) (by decide) | exact sdO.row (by assumption) (by decide))

