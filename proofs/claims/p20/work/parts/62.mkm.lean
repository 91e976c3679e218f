/-- the model's ints at its beginning -/
def mIv (q j : Nat) : Int32 := if q = 4 then (if j < 8 then fSha j else 0) else if q = 5 then (if j < 64 then kSha j else 0) else 0
def mTK : List (Nat × hKd) := [(0, .inl (.int, 400)), (2, .inl (.int, 8)), (3, .inl (.int, 64)), (4, .inl (.int, 8)), (5, .inl (.int, 64)), (6, .inl (.int, 32)), (7, .inl (.int, 32)), (8, .inl (.int, 33)), (9, .inl (.int, 32)), (10, .inl (.long, 160)), (11, .inl (.long, 32)), (12, .inl (.int, 32)), (13, .inl (.int, 32)), (14, .inl (.int, 16)), (15, .inl (.int, 16)), (16, .inl (.int, 64)), (17, .inl (.int, 17)), (18, .inl (.int, 17)), (19, .inl (.int, 17)), (20, .inl (.int, 17)), (21, .inl (.int, 32)), (22, .inl (.int, 200)), (23, .inl (.int, 16)), (25, .inl (.boolean, 16)), (26, .inl (.int, 8)), (27, .inl (.int, 48)), (28, .inl (.int, 240)), (29, .inl (.boolean, 2)), (30, .inl (.boolean, 2)), (31, .inl (.boolean, 6)), (32, .inl (.boolean, 6)), (34, .inl (.int, 5)), (35, .inl (.int, 5)), (36, .inl (.boolean, 5)), (37, .inl (.int, 5)), (38, .inl (.int, 5)), (39, .inl (.int, 5)), (40, .inl (.int, 5)), (41, .inl (.boolean, 5)), (42, .inl (.boolean, 5)), (43, .inl (.int, 5)), (44, .inl (.int, 5)), (45, .inl (.boolean, 5)), (46, .inl (.boolean, 5)), (47, .inl (.int, 160)), (48, .inl (.int, 160)), (49, .inl (.int, 160)), (50, .inl (.int, 160)), (51, .inl (.int, 160)), (52, .inl (.int, 160)), (53, .inl (.int, 160)), (54, .inl (.int, 160)), (55, .inl (.int, 64)), (57, .inl (.int, 400)), (59, .inl (.int, 400)), (61, .inl (.int, 400)), (62, .inl (.int, 32))]
def mTR : List (Nat × Nat × Nat) := [(63, 0, 0), (63, 2, 2), (63, 3, 3), (63, 4, 4), (63, 5, 5), (63, 6, 6), (63, 7, 7), (63, 8, 8), (63, 9, 9), (63, 10, 10), (63, 11, 11), (63, 12, 12), (63, 13, 13), (63, 14, 14), (63, 15, 15), (63, 16, 16), (63, 17, 17), (63, 18, 18), (63, 19, 19), (63, 20, 20), (63, 21, 21), (63, 22, 22), (63, 23, 23), (63, 25, 25), (63, 26, 26), (63, 27, 27), (63, 28, 28), (63, 29, 29), (63, 30, 30), (63, 31, 31), (63, 32, 32), (63, 34, 34), (63, 35, 35), (63, 36, 36), (63, 37, 37), (63, 38, 38), (63, 39, 39), (63, 40, 40), (63, 41, 41), (63, 42, 42), (63, 43, 43), (63, 44, 44), (63, 45, 45), (63, 46, 46), (63, 47, 47), (63, 48, 48), (63, 49, 49), (63, 50, 50), (63, 51, 51), (63, 52, 52), (63, 53, 53), (63, 54, 54), (63, 55, 55), (63, 57, 57), (63, 59, 59), (63, 61, 61), (63, 62, 62)]
set_option maxHeartbeats 4000000 in
set_option maxRecDepth 100000 in
theorem ok_X11_init {l : Launch} {a0 : Nat} {D : va_G} {sa : Nat → Nat} {G : hG} (hT : G.1 63 = some (.inr 11)) (hA : a0 ≤ gA G 63) (h00 : ∀ j, G.2.1 63 j = 0) (F : fre 0 63 G) : hM l a0 D sa yX11_init cX11_init 1 none { frames := 1, cells := 57, slots := 4310, locals := 20 } [.ref (gA G 63)] G (fun v G' => v = none ∧ blt a0 63 0 63 63 63 mIv mTK mTR G G') := by
  refine hM.of (by decide +kernel) (Nat.le_of_ble_eq_true rfl) ?_
  intro z hl h0 hD hS hNn C E
  subst hl; subst h0; subst hD; subst hS
  have C : hC z RX11 cX11_init := C
  have hZ := E.2.2.2.1
  show hX z 0 0 G [(0, .ref (gA G 63))] 0 []
  have K : mkr z RX11 G 63 0 63 11 := ⟨E.2.2.1, rfl, hT, hA, h00, F⟩
  have b0 : blt (z0 z) 63 0 0 63 0 mIv [] [] G G := blt.rf (Or.inr (Nat.le_refl _)) (by omega)
  refine x_aload_n C dX11_init_0 0 rfl rfl ?_
  refine x_objInit C ml_X11_1 obj_inst obj_code (hrm (rm := { frames := 0, cells := 0, slots := 0, locals := 0 }) hZ ⟨Nat.le_of_ble_eq_true rfl, Nat.le_of_ble_eq_true rfl⟩) dX11_init_1 ?_
  refine x_aload_n C dX11_init_4 0 rfl rfl ?_
  refine x_sipush (v := nI 400) C dX11_init_5 (by decide +kernel) ?_
  refine s_arr (len := 400) (k := 0) C K b0 (by omega) (fun _ => rfl) (by decide) fl_X11_7 rfl rfl (Or.inl rfl) ac_int (by decide) (by rw [hZ]; exact Nat.le_of_ble_eq_true rfl) (by rw [hZ]; exact Nat.le_of_ble_eq_true rfl) dX11_init_8 dX11_init_10 (fun G1 b1 => ?_)
  refine x_aload_n C dX11_init_13 0 rfl rfl ?_
  refine x_bipush (v := nI 8) C dX11_init_14 (by decide +kernel) ?_
  have b1s := b1.skip (by omega)
  refine s_arr (len := 8) (k := 2) C K b1s (by omega) (fun _ => rfl) (by decide) fl_X11_13 rfl rfl (Or.inl rfl) ac_int (by decide) (by rw [hZ]; exact Nat.le_of_ble_eq_true rfl) (by rw [hZ]; exact Nat.le_of_ble_eq_true rfl) dX11_init_16 dX11_init_18 (fun G2 b2 => ?_)
  refine x_aload_n C dX11_init_21 0 rfl rfl ?_
  refine x_bipush (v := nI 64) C dX11_init_22 (by decide +kernel) ?_
  refine s_arr (len := 64) (k := 3) C K b2 (by omega) (fun _ => rfl) (by decide) fl_X11_16 rfl rfl (Or.inl rfl) ac_int (by decide) (by rw [hZ]; exact Nat.le_of_ble_eq_true rfl) (by rw [hZ]; exact Nat.le_of_ble_eq_true rfl) dX11_init_24 dX11_init_26 (fun G3 b3 => ?_)
  refine x_aload_n C dX11_init_29 0 rfl rfl ?_
  refine x_bipush (v := nI 8) C dX11_init_30 (by decide +kernel) ?_
  refine s_ina (len := 8) (v := fSha) C K b3 (by omega) ac_int (by decide) (by rw [hZ]; exact Nat.le_of_ble_eq_true rfl) (by rw [hZ]; exact Nat.le_of_ble_eq_true rfl) dX11_init_32 (fun G4 hT4 hA4 hB4 hZ4 => ?_)
  have i0 : inl_ fSha 4 0 G4 G4 := ⟨rfl, fun _ _ => rfl, fun j => by rw [if_neg (Nat.not_lt_zero j)]; exact hZ4 j, rfl, rfl, rfl⟩
  refine x_dup C dX11_init_34 rfl ?_
  refine x_iconst (v := nI 0) C dX11_init_35 (by decide +kernel) ?_
  refine x_ldc C dX11_init_36 kc_X11_19 ?_
  refine s_ist C i0 hT4 hA4 (by decide) (by decide) (by decide +kernel) dX11_init_38 (fun H1 i1 eA1 => ?_)
  refine x_dup C dX11_init_39 rfl ?_
  refine x_iconst (v := nI 1) C dX11_init_40 (by decide +kernel) ?_
  refine x_ldc C dX11_init_41 kc_X11_20 ?_
  refine s_ist C i1 hT4 hA4 (by decide) (by decide) (by decide +kernel) dX11_init_43 (fun H2 i2 eA2 => ?_)
  refine x_dup C dX11_init_44 rfl ?_
  refine x_iconst (v := nI 2) C dX11_init_45 (by decide +kernel) ?_
  refine x_ldc C dX11_init_46 kc_X11_21 ?_
  refine s_ist C i2 hT4 hA4 (by decide) (by decide) (by decide +kernel) dX11_init_48 (fun H3 i3 eA3 => ?_)
  refine x_dup C dX11_init_49 rfl ?_
  refine x_iconst (v := nI 3) C dX11_init_50 (by decide +kernel) ?_
  refine x_ldc C dX11_init_51 kc_X11_22 ?_
  refine s_ist C i3 hT4 hA4 (by decide) (by decide) (by decide +kernel) dX11_init_53 (fun H4 i4 eA4 => ?_)
  refine x_dup C dX11_init_54 rfl ?_
  refine x_iconst (v := nI 4) C dX11_init_55 (by decide +kernel) ?_
  refine x_ldc C dX11_init_56 kc_X11_23 ?_
  refine s_ist C i4 hT4 hA4 (by decide) (by decide) (by decide +kernel) dX11_init_58 (fun H5 i5 eA5 => ?_)
  refine x_dup C dX11_init_59 rfl ?_
  refine x_iconst (v := nI 5) C dX11_init_60 (by decide +kernel) ?_
  refine x_ldc C dX11_init_61 kc_X11_24 ?_
  refine s_ist C i5 hT4 hA4 (by decide) (by decide) (by decide +kernel) dX11_init_63 (fun H6 i6 eA6 => ?_)
  refine x_dup C dX11_init_64 rfl ?_
  refine x_bipush (v := nI 6) C dX11_init_65 (by decide +kernel) ?_
  refine x_ldc C dX11_init_67 kc_X11_25 ?_
  refine s_ist C i6 hT4 hA4 (by decide) (by decide) (by decide +kernel) dX11_init_69 (fun H7 i7 eA7 => ?_)
  refine x_dup C dX11_init_70 rfl ?_
  refine x_bipush (v := nI 7) C dX11_init_71 (by decide +kernel) ?_
  refine x_ldc C dX11_init_73 kc_X11_26 ?_
  refine s_ist C i7 hT4 hA4 (by decide) (by decide) (by decide +kernel) dX11_init_75 (fun H8 i8 eA8 => ?_)
  have b4a := hB4 H8 i8 (fun j => rfl)
  rw [show gA G4 = gA H8 from eA8.symm]
  refine mkr.put C K b4a fl_X11_27 rfl rfl dX11_init_76 ?_
  have b4 := b4a.put (k := 4) (r := 4) (by decide) ⟨by decide, by decide⟩
  show hX z _ _ (gR H8 63 4 (some 4)) [(0, .ref (gA (gR H8 63 4 (some 4)) 63))] 79 []
  generalize gR H8 63 4 (some 4) = G4x at b4 ⊢
  refine x_aload_n C dX11_init_79 0 rfl rfl ?_
  refine x_bipush (v := nI 64) C dX11_init_80 (by decide +kernel) ?_
  refine s_ina (len := 64) (v := kSha) C K b4 (by omega) ac_int (by decide) (by rw [hZ]; exact Nat.le_of_ble_eq_true rfl) (by rw [hZ]; exact Nat.le_of_ble_eq_true rfl) dX11_init_82 (fun G5 hT5 hA5 hB5 hZ5 => ?_)
  have i0 : inl_ kSha 5 0 G5 G5 := ⟨rfl, fun _ _ => rfl, fun j => by rw [if_neg (Nat.not_lt_zero j)]; exact hZ5 j, rfl, rfl, rfl⟩
  refine x_dup C dX11_init_84 rfl ?_
  refine x_iconst (v := nI 0) C dX11_init_85 (by decide +kernel) ?_
  refine x_ldc C dX11_init_86 kc_X11_30 ?_
  refine s_ist C i0 hT5 hA5 (by decide) (by decide) (by decide +kernel) dX11_init_88 (fun H1 i1 eA1 => ?_)
  refine x_dup C dX11_init_89 rfl ?_
  refine x_iconst (v := nI 1) C dX11_init_90 (by decide +kernel) ?_
  refine x_ldc C dX11_init_91 kc_X11_31 ?_
  refine s_ist C i1 hT5 hA5 (by decide) (by decide) (by decide +kernel) dX11_init_93 (fun H2 i2 eA2 => ?_)
  refine x_dup C dX11_init_94 rfl ?_
  refine x_iconst (v := nI 2) C dX11_init_95 (by decide +kernel) ?_
  refine x_ldc C dX11_init_96 kc_X11_32 ?_
  refine s_ist C i2 hT5 hA5 (by decide) (by decide) (by decide +kernel) dX11_init_98 (fun H3 i3 eA3 => ?_)
  refine x_dup C dX11_init_99 rfl ?_
  refine x_iconst (v := nI 3) C dX11_init_100 (by decide +kernel) ?_
  refine x_ldc C dX11_init_101 kc_X11_33 ?_
  refine s_ist C i3 hT5 hA5 (by decide) (by decide) (by decide +kernel) dX11_init_103 (fun H4 i4 eA4 => ?_)
  refine x_dup C dX11_init_104 rfl ?_
  refine x_iconst (v := nI 4) C dX11_init_105 (by decide +kernel) ?_
  refine x_ldc C dX11_init_106 kc_X11_34 ?_
  refine s_ist C i4 hT5 hA5 (by decide) (by decide) (by decide +kernel) dX11_init_108 (fun H5 i5 eA5 => ?_)
  refine x_dup C dX11_init_109 rfl ?_
  refine x_iconst (v := nI 5) C dX11_init_110 (by decide +kernel) ?_
  refine x_ldc C dX11_init_111 kc_X11_35 ?_
  refine s_ist C i5 hT5 hA5 (by decide) (by decide) (by decide +kernel) dX11_init_113 (fun H6 i6 eA6 => ?_)
  refine x_dup C dX11_init_114 rfl ?_
  refine x_bipush (v := nI 6) C dX11_init_115 (by decide +kernel) ?_
  refine x_ldc C dX11_init_117 kc_X11_36 ?_
  refine s_ist C i6 hT5 hA5 (by decide) (by decide) (by decide +kernel) dX11_init_119 (fun H7 i7 eA7 => ?_)
  refine x_dup C dX11_init_120 rfl ?_
  refine x_bipush (v := nI 7) C dX11_init_121 (by decide +kernel) ?_
  refine x_ldc C dX11_init_123 kc_X11_37 ?_
  refine s_ist C i7 hT5 hA5 (by decide) (by decide) (by decide +kernel) dX11_init_125 (fun H8 i8 eA8 => ?_)
  refine x_dup C dX11_init_126 rfl ?_
  refine x_bipush (v := nI 8) C dX11_init_127 (by decide +kernel) ?_
  refine x_ldc C dX11_init_129 kc_X11_38 ?_
  refine s_ist C i8 hT5 hA5 (by decide) (by decide) (by decide +kernel) dX11_init_131 (fun H9 i9 eA9 => ?_)
  refine x_dup C dX11_init_132 rfl ?_
  refine x_bipush (v := nI 9) C dX11_init_133 (by decide +kernel) ?_
  refine x_ldc C dX11_init_135 kc_X11_39 ?_
  refine s_ist C i9 hT5 hA5 (by decide) (by decide) (by decide +kernel) dX11_init_137 (fun H10 i10 eA10 => ?_)
  refine x_dup C dX11_init_138 rfl ?_
  refine x_bipush (v := nI 10) C dX11_init_139 (by decide +kernel) ?_
  refine x_ldc C dX11_init_141 kc_X11_40 ?_
  refine s_ist C i10 hT5 hA5 (by decide) (by decide) (by decide +kernel) dX11_init_143 (fun H11 i11 eA11 => ?_)
  refine x_dup C dX11_init_144 rfl ?_
  refine x_bipush (v := nI 11) C dX11_init_145 (by decide +kernel) ?_
  refine x_ldc C dX11_init_147 kc_X11_41 ?_
  refine s_ist C i11 hT5 hA5 (by decide) (by decide) (by decide +kernel) dX11_init_149 (fun H12 i12 eA12 => ?_)
  refine x_dup C dX11_init_150 rfl ?_
  refine x_bipush (v := nI 12) C dX11_init_151 (by decide +kernel) ?_
  refine x_ldc C dX11_init_153 kc_X11_42 ?_
  refine s_ist C i12 hT5 hA5 (by decide) (by decide) (by decide +kernel) dX11_init_155 (fun H13 i13 eA13 => ?_)
  refine x_dup C dX11_init_156 rfl ?_
  refine x_bipush (v := nI 13) C dX11_init_157 (by decide +kernel) ?_
  refine x_ldc C dX11_init_159 kc_X11_43 ?_
  refine s_ist C i13 hT5 hA5 (by decide) (by decide) (by decide +kernel) dX11_init_161 (fun H14 i14 eA14 => ?_)
  refine x_dup C dX11_init_162 rfl ?_
  refine x_bipush (v := nI 14) C dX11_init_163 (by decide +kernel) ?_
  refine x_ldc C dX11_init_165 kc_X11_44 ?_
  refine s_ist C i14 hT5 hA5 (by decide) (by decide) (by decide +kernel) dX11_init_167 (fun H15 i15 eA15 => ?_)
  refine x_dup C dX11_init_168 rfl ?_
  refine x_bipush (v := nI 15) C dX11_init_169 (by decide +kernel) ?_
  refine x_ldc C dX11_init_171 kc_X11_45 ?_
  refine s_ist C i15 hT5 hA5 (by decide) (by decide) (by decide +kernel) dX11_init_173 (fun H16 i16 eA16 => ?_)
  refine x_dup C dX11_init_174 rfl ?_
  refine x_bipush (v := nI 16) C dX11_init_175 (by decide +kernel) ?_
  refine x_ldc C dX11_init_177 kc_X11_46 ?_
  refine s_ist C i16 hT5 hA5 (by decide) (by decide) (by decide +kernel) dX11_init_179 (fun H17 i17 eA17 => ?_)
  refine x_dup C dX11_init_180 rfl ?_
  refine x_bipush (v := nI 17) C dX11_init_181 (by decide +kernel) ?_
  refine x_ldc C dX11_init_183 kc_X11_47 ?_
  refine s_ist C i17 hT5 hA5 (by decide) (by decide) (by decide +kernel) dX11_init_185 (fun H18 i18 eA18 => ?_)
  refine x_dup C dX11_init_186 rfl ?_
  refine x_bipush (v := nI 18) C dX11_init_187 (by decide +kernel) ?_
  refine x_ldc C dX11_init_189 kc_X11_48 ?_
  refine s_ist C i18 hT5 hA5 (by decide) (by decide) (by decide +kernel) dX11_init_191 (fun H19 i19 eA19 => ?_)
  refine x_dup C dX11_init_192 rfl ?_
  refine x_bipush (v := nI 19) C dX11_init_193 (by decide +kernel) ?_
  refine x_ldc C dX11_init_195 kc_X11_49 ?_
  refine s_ist C i19 hT5 hA5 (by decide) (by decide) (by decide +kernel) dX11_init_197 (fun H20 i20 eA20 => ?_)
  refine x_dup C dX11_init_198 rfl ?_
  refine x_bipush (v := nI 20) C dX11_init_199 (by decide +kernel) ?_
  refine x_ldc C dX11_init_201 kc_X11_50 ?_
  refine s_ist C i20 hT5 hA5 (by decide) (by decide) (by decide +kernel) dX11_init_203 (fun H21 i21 eA21 => ?_)
  refine x_dup C dX11_init_204 rfl ?_
  refine x_bipush (v := nI 21) C dX11_init_205 (by decide +kernel) ?_
  refine x_ldc C dX11_init_207 kc_X11_51 ?_
  refine s_ist C i21 hT5 hA5 (by decide) (by decide) (by decide +kernel) dX11_init_209 (fun H22 i22 eA22 => ?_)
  refine x_dup C dX11_init_210 rfl ?_
  refine x_bipush (v := nI 22) C dX11_init_211 (by decide +kernel) ?_
  refine x_ldc C dX11_init_213 kc_X11_52 ?_
  refine s_ist C i22 hT5 hA5 (by decide) (by decide) (by decide +kernel) dX11_init_215 (fun H23 i23 eA23 => ?_)
  refine x_dup C dX11_init_216 rfl ?_
  refine x_bipush (v := nI 23) C dX11_init_217 (by decide +kernel) ?_
  refine x_ldc C dX11_init_219 kc_X11_53 ?_
  refine s_ist C i23 hT5 hA5 (by decide) (by decide) (by decide +kernel) dX11_init_221 (fun H24 i24 eA24 => ?_)
  refine x_dup C dX11_init_222 rfl ?_
  refine x_bipush (v := nI 24) C dX11_init_223 (by decide +kernel) ?_
  refine x_ldc C dX11_init_225 kc_X11_54 ?_
  refine s_ist C i24 hT5 hA5 (by decide) (by decide) (by decide +kernel) dX11_init_227 (fun H25 i25 eA25 => ?_)
  refine x_dup C dX11_init_228 rfl ?_
  refine x_bipush (v := nI 25) C dX11_init_229 (by decide +kernel) ?_
  refine x_ldc C dX11_init_231 kc_X11_55 ?_
  refine s_ist C i25 hT5 hA5 (by decide) (by decide) (by decide +kernel) dX11_init_233 (fun H26 i26 eA26 => ?_)
  refine x_dup C dX11_init_234 rfl ?_
  refine x_bipush (v := nI 26) C dX11_init_235 (by decide +kernel) ?_
  refine x_ldc C dX11_init_237 kc_X11_56 ?_
  refine s_ist C i26 hT5 hA5 (by decide) (by decide) (by decide +kernel) dX11_init_239 (fun H27 i27 eA27 => ?_)
  refine x_dup C dX11_init_240 rfl ?_
  refine x_bipush (v := nI 27) C dX11_init_241 (by decide +kernel) ?_
  refine x_ldc C dX11_init_243 kc_X11_57 ?_
  refine s_ist C i27 hT5 hA5 (by decide) (by decide) (by decide +kernel) dX11_init_245 (fun H28 i28 eA28 => ?_)
  refine x_dup C dX11_init_246 rfl ?_
  refine x_bipush (v := nI 28) C dX11_init_247 (by decide +kernel) ?_
  refine x_ldc C dX11_init_249 kc_X11_58 ?_
  refine s_ist C i28 hT5 hA5 (by decide) (by decide) (by decide +kernel) dX11_init_251 (fun H29 i29 eA29 => ?_)
  refine x_dup C dX11_init_252 rfl ?_
  refine x_bipush (v := nI 29) C dX11_init_253 (by decide +kernel) ?_
  refine x_ldc C dX11_init_255 kc_X11_59 ?_
  refine s_ist C i29 hT5 hA5 (by decide) (by decide) (by decide +kernel) dX11_init_257 (fun H30 i30 eA30 => ?_)
  refine x_dup C dX11_init_258 rfl ?_
  refine x_bipush (v := nI 30) C dX11_init_259 (by decide +kernel) ?_
  refine x_ldc C dX11_init_261 kc_X11_60 ?_
  refine s_ist C i30 hT5 hA5 (by decide) (by decide) (by decide +kernel) dX11_init_263 (fun H31 i31 eA31 => ?_)
  refine x_dup C dX11_init_264 rfl ?_
  refine x_bipush (v := nI 31) C dX11_init_265 (by decide +kernel) ?_
  refine x_ldc C dX11_init_267 kc_X11_61 ?_
  refine s_ist C i31 hT5 hA5 (by decide) (by decide) (by decide +kernel) dX11_init_269 (fun H32 i32 eA32 => ?_)
  refine x_dup C dX11_init_270 rfl ?_
  refine x_bipush (v := nI 32) C dX11_init_271 (by decide +kernel) ?_
  refine x_ldc C dX11_init_273 kc_X11_62 ?_
  refine s_ist C i32 hT5 hA5 (by decide) (by decide) (by decide +kernel) dX11_init_275 (fun H33 i33 eA33 => ?_)
  refine x_dup C dX11_init_276 rfl ?_
  refine x_bipush (v := nI 33) C dX11_init_277 (by decide +kernel) ?_
  refine x_ldc C dX11_init_279 kc_X11_63 ?_
  refine s_ist C i33 hT5 hA5 (by decide) (by decide) (by decide +kernel) dX11_init_281 (fun H34 i34 eA34 => ?_)
  refine x_dup C dX11_init_282 rfl ?_
  refine x_bipush (v := nI 34) C dX11_init_283 (by decide +kernel) ?_
  refine x_ldc C dX11_init_285 kc_X11_64 ?_
  refine s_ist C i34 hT5 hA5 (by decide) (by decide) (by decide +kernel) dX11_init_287 (fun H35 i35 eA35 => ?_)
  refine x_dup C dX11_init_288 rfl ?_
  refine x_bipush (v := nI 35) C dX11_init_289 (by decide +kernel) ?_
  refine x_ldc C dX11_init_291 kc_X11_65 ?_
  refine s_ist C i35 hT5 hA5 (by decide) (by decide) (by decide +kernel) dX11_init_293 (fun H36 i36 eA36 => ?_)
  refine x_dup C dX11_init_294 rfl ?_
  refine x_bipush (v := nI 36) C dX11_init_295 (by decide +kernel) ?_
  refine x_ldc C dX11_init_297 kc_X11_66 ?_
  refine s_ist C i36 hT5 hA5 (by decide) (by decide) (by decide +kernel) dX11_init_299 (fun H37 i37 eA37 => ?_)
  refine x_dup C dX11_init_300 rfl ?_
  refine x_bipush (v := nI 37) C dX11_init_301 (by decide +kernel) ?_
  refine x_ldc C dX11_init_303 kc_X11_67 ?_
  refine s_ist C i37 hT5 hA5 (by decide) (by decide) (by decide +kernel) dX11_init_305 (fun H38 i38 eA38 => ?_)
  refine x_dup C dX11_init_306 rfl ?_
  refine x_bipush (v := nI 38) C dX11_init_307 (by decide +kernel) ?_
  refine x_ldc C dX11_init_309 kc_X11_68 ?_
  refine s_ist C i38 hT5 hA5 (by decide) (by decide) (by decide +kernel) dX11_init_311 (fun H39 i39 eA39 => ?_)
  refine x_dup C dX11_init_312 rfl ?_
  refine x_bipush (v := nI 39) C dX11_init_313 (by decide +kernel) ?_
  refine x_ldc C dX11_init_315 kc_X11_69 ?_
  refine s_ist C i39 hT5 hA5 (by decide) (by decide) (by decide +kernel) dX11_init_317 (fun H40 i40 eA40 => ?_)
  refine x_dup C dX11_init_318 rfl ?_
  refine x_bipush (v := nI 40) C dX11_init_319 (by decide +kernel) ?_
  refine x_ldc C dX11_init_321 kc_X11_70 ?_
  refine s_ist C i40 hT5 hA5 (by decide) (by decide) (by decide +kernel) dX11_init_323 (fun H41 i41 eA41 => ?_)
  refine x_dup C dX11_init_324 rfl ?_
  refine x_bipush (v := nI 41) C dX11_init_325 (by decide +kernel) ?_
  refine x_ldc C dX11_init_327 kc_X11_71 ?_
  refine s_ist C i41 hT5 hA5 (by decide) (by decide) (by decide +kernel) dX11_init_329 (fun H42 i42 eA42 => ?_)
  refine x_dup C dX11_init_330 rfl ?_
  refine x_bipush (v := nI 42) C dX11_init_331 (by decide +kernel) ?_
  refine x_ldc C dX11_init_333 kc_X11_72 ?_
  refine s_ist C i42 hT5 hA5 (by decide) (by decide) (by decide +kernel) dX11_init_335 (fun H43 i43 eA43 => ?_)
  refine x_dup C dX11_init_336 rfl ?_
  refine x_bipush (v := nI 43) C dX11_init_337 (by decide +kernel) ?_
  refine x_ldc C dX11_init_339 kc_X11_73 ?_
  refine s_ist C i43 hT5 hA5 (by decide) (by decide) (by decide +kernel) dX11_init_341 (fun H44 i44 eA44 => ?_)
  refine x_dup C dX11_init_342 rfl ?_
  refine x_bipush (v := nI 44) C dX11_init_343 (by decide +kernel) ?_
  refine x_ldc C dX11_init_345 kc_X11_74 ?_
  refine s_ist C i44 hT5 hA5 (by decide) (by decide) (by decide +kernel) dX11_init_347 (fun H45 i45 eA45 => ?_)
  refine x_dup C dX11_init_348 rfl ?_
  refine x_bipush (v := nI 45) C dX11_init_349 (by decide +kernel) ?_
  refine x_ldc C dX11_init_351 kc_X11_75 ?_
  refine s_ist C i45 hT5 hA5 (by decide) (by decide) (by decide +kernel) dX11_init_353 (fun H46 i46 eA46 => ?_)
  refine x_dup C dX11_init_354 rfl ?_
  refine x_bipush (v := nI 46) C dX11_init_355 (by decide +kernel) ?_
  refine x_ldc C dX11_init_357 kc_X11_76 ?_
  refine s_ist C i46 hT5 hA5 (by decide) (by decide) (by decide +kernel) dX11_init_359 (fun H47 i47 eA47 => ?_)
  refine x_dup C dX11_init_360 rfl ?_
  refine x_bipush (v := nI 47) C dX11_init_361 (by decide +kernel) ?_
  refine x_ldc C dX11_init_363 kc_X11_77 ?_
  refine s_ist C i47 hT5 hA5 (by decide) (by decide) (by decide +kernel) dX11_init_365 (fun H48 i48 eA48 => ?_)
  refine x_dup C dX11_init_366 rfl ?_
  refine x_bipush (v := nI 48) C dX11_init_367 (by decide +kernel) ?_
  refine x_ldc C dX11_init_369 kc_X11_78 ?_
  refine s_ist C i48 hT5 hA5 (by decide) (by decide) (by decide +kernel) dX11_init_371 (fun H49 i49 eA49 => ?_)
  refine x_dup C dX11_init_372 rfl ?_
  refine x_bipush (v := nI 49) C dX11_init_373 (by decide +kernel) ?_
  refine x_ldc C dX11_init_375 kc_X11_79 ?_
  refine s_ist C i49 hT5 hA5 (by decide) (by decide) (by decide +kernel) dX11_init_377 (fun H50 i50 eA50 => ?_)
  refine x_dup C dX11_init_378 rfl ?_
  refine x_bipush (v := nI 50) C dX11_init_379 (by decide +kernel) ?_
  refine x_ldc C dX11_init_381 kc_X11_80 ?_
  refine s_ist C i50 hT5 hA5 (by decide) (by decide) (by decide +kernel) dX11_init_383 (fun H51 i51 eA51 => ?_)
  refine x_dup C dX11_init_384 rfl ?_
  refine x_bipush (v := nI 51) C dX11_init_385 (by decide +kernel) ?_
  refine x_ldc C dX11_init_387 kc_X11_81 ?_
  refine s_ist C i51 hT5 hA5 (by decide) (by decide) (by decide +kernel) dX11_init_389 (fun H52 i52 eA52 => ?_)
  refine x_dup C dX11_init_390 rfl ?_
  refine x_bipush (v := nI 52) C dX11_init_391 (by decide +kernel) ?_
  refine x_ldc C dX11_init_393 kc_X11_82 ?_
  refine s_ist C i52 hT5 hA5 (by decide) (by decide) (by decide +kernel) dX11_init_395 (fun H53 i53 eA53 => ?_)
  refine x_dup C dX11_init_396 rfl ?_
  refine x_bipush (v := nI 53) C dX11_init_397 (by decide +kernel) ?_
  refine x_ldc C dX11_init_399 kc_X11_83 ?_
  refine s_ist C i53 hT5 hA5 (by decide) (by decide) (by decide +kernel) dX11_init_401 (fun H54 i54 eA54 => ?_)
  refine x_dup C dX11_init_402 rfl ?_
  refine x_bipush (v := nI 54) C dX11_init_403 (by decide +kernel) ?_
  refine x_ldc C dX11_init_405 kc_X11_84 ?_
  refine s_ist C i54 hT5 hA5 (by decide) (by decide) (by decide +kernel) dX11_init_407 (fun H55 i55 eA55 => ?_)
  refine x_dup C dX11_init_408 rfl ?_
  refine x_bipush (v := nI 55) C dX11_init_409 (by decide +kernel) ?_
  refine x_ldc C dX11_init_411 kc_X11_85 ?_
  refine s_ist C i55 hT5 hA5 (by decide) (by decide) (by decide +kernel) dX11_init_413 (fun H56 i56 eA56 => ?_)
  refine x_dup C dX11_init_414 rfl ?_
  refine x_bipush (v := nI 56) C dX11_init_415 (by decide +kernel) ?_
  refine x_ldc C dX11_init_417 kc_X11_86 ?_
  refine s_ist C i56 hT5 hA5 (by decide) (by decide) (by decide +kernel) dX11_init_419 (fun H57 i57 eA57 => ?_)
  refine x_dup C dX11_init_420 rfl ?_
  refine x_bipush (v := nI 57) C dX11_init_421 (by decide +kernel) ?_
  refine x_ldc C dX11_init_423 kc_X11_87 ?_
  refine s_ist C i57 hT5 hA5 (by decide) (by decide) (by decide +kernel) dX11_init_425 (fun H58 i58 eA58 => ?_)
  refine x_dup C dX11_init_426 rfl ?_
  refine x_bipush (v := nI 58) C dX11_init_427 (by decide +kernel) ?_
  refine x_ldc C dX11_init_429 kc_X11_88 ?_
  refine s_ist C i58 hT5 hA5 (by decide) (by decide) (by decide +kernel) dX11_init_431 (fun H59 i59 eA59 => ?_)
  refine x_dup C dX11_init_432 rfl ?_
  refine x_bipush (v := nI 59) C dX11_init_433 (by decide +kernel) ?_
  refine x_ldc C dX11_init_435 kc_X11_89 ?_
  refine s_ist C i59 hT5 hA5 (by decide) (by decide) (by decide +kernel) dX11_init_437 (fun H60 i60 eA60 => ?_)
  refine x_dup C dX11_init_438 rfl ?_
  refine x_bipush (v := nI 60) C dX11_init_439 (by decide +kernel) ?_
  refine x_ldc C dX11_init_441 kc_X11_90 ?_
  refine s_ist C i60 hT5 hA5 (by decide) (by decide) (by decide +kernel) dX11_init_443 (fun H61 i61 eA61 => ?_)
  refine x_dup C dX11_init_444 rfl ?_
  refine x_bipush (v := nI 61) C dX11_init_445 (by decide +kernel) ?_
  refine x_ldc C dX11_init_447 kc_X11_91 ?_
  refine s_ist C i61 hT5 hA5 (by decide) (by decide) (by decide +kernel) dX11_init_449 (fun H62 i62 eA62 => ?_)
  refine x_dup C dX11_init_450 rfl ?_
  refine x_bipush (v := nI 62) C dX11_init_451 (by decide +kernel) ?_
  refine x_ldc C dX11_init_453 kc_X11_92 ?_
  refine s_ist C i62 hT5 hA5 (by decide) (by decide) (by decide +kernel) dX11_init_455 (fun H63 i63 eA63 => ?_)
  refine x_dup C dX11_init_456 rfl ?_
  refine x_bipush (v := nI 63) C dX11_init_457 (by decide +kernel) ?_
  refine x_ldc C dX11_init_459 kc_X11_93 ?_
  refine s_ist C i63 hT5 hA5 (by decide) (by decide) (by decide +kernel) dX11_init_461 (fun H64 i64 eA64 => ?_)
  have b5a := hB5 H64 i64 (fun j => rfl)
  rw [show gA G5 = gA H64 from eA64.symm]
  refine mkr.put C K b5a fl_X11_94 rfl rfl dX11_init_462 ?_
  have b5 := b5a.put (k := 5) (r := 5) (by decide) ⟨by decide, by decide⟩
  show hX z _ _ (gR H64 63 5 (some 5)) [(0, .ref (gA (gR H64 63 5 (some 5)) 63))] 465 []
  generalize gR H64 63 5 (some 5) = G5x at b5 ⊢
  refine x_aload_n C dX11_init_465 0 rfl rfl ?_
  refine x_bipush (v := nI 32) C dX11_init_466 (by decide +kernel) ?_
  refine s_arr (len := 32) (k := 6) C K b5 (by omega) (fun _ => rfl) (by decide) fl_X11_97 rfl rfl (Or.inl rfl) ac_int (by decide) (by rw [hZ]; exact Nat.le_of_ble_eq_true rfl) (by rw [hZ]; exact Nat.le_of_ble_eq_true rfl) dX11_init_468 dX11_init_470 (fun G6 b6 => ?_)
  refine x_aload_n C dX11_init_473 0 rfl rfl ?_
  refine x_bipush (v := nI 32) C dX11_init_474 (by decide +kernel) ?_
  refine s_arr (len := 32) (k := 7) C K b6 (by omega) (fun _ => rfl) (by decide) fl_X11_100 rfl rfl (Or.inl rfl) ac_int (by decide) (by rw [hZ]; exact Nat.le_of_ble_eq_true rfl) (by rw [hZ]; exact Nat.le_of_ble_eq_true rfl) dX11_init_476 dX11_init_478 (fun G7 b7 => ?_)
  refine x_aload_n C dX11_init_481 0 rfl rfl ?_
  refine x_bipush (v := nI 33) C dX11_init_482 (by decide +kernel) ?_
  refine s_arr (len := 33) (k := 8) C K b7 (by omega) (fun _ => rfl) (by decide) fl_X11_103 rfl rfl (Or.inl rfl) ac_int (by decide) (by rw [hZ]; exact Nat.le_of_ble_eq_true rfl) (by rw [hZ]; exact Nat.le_of_ble_eq_true rfl) dX11_init_484 dX11_init_486 (fun G8 b8 => ?_)
  refine x_aload_n C dX11_init_489 0 rfl rfl ?_
  refine x_bipush (v := nI 32) C dX11_init_490 (by decide +kernel) ?_
  refine s_arr (len := 32) (k := 9) C K b8 (by omega) (fun _ => rfl) (by decide) fl_X11_106 rfl rfl (Or.inl rfl) ac_int (by decide) (by rw [hZ]; exact Nat.le_of_ble_eq_true rfl) (by rw [hZ]; exact Nat.le_of_ble_eq_true rfl) dX11_init_492 dX11_init_494 (fun G9 b9 => ?_)
  refine x_aload_n C dX11_init_497 0 rfl rfl ?_
  refine x_sipush (v := nI 160) C dX11_init_498 (by decide +kernel) ?_
  refine s_arr (len := 160) (k := 10) C K b9 (by omega) (fun _ => rfl) (by decide) fl_X11_109 rfl rfl (Or.inr (Or.inl rfl)) ac_long (by decide) (by rw [hZ]; exact Nat.le_of_ble_eq_true rfl) (by rw [hZ]; exact Nat.le_of_ble_eq_true rfl) dX11_init_501 dX11_init_503 (fun G10 b10 => ?_)
  refine x_aload_n C dX11_init_506 0 rfl rfl ?_
  refine x_bipush (v := nI 32) C dX11_init_507 (by decide +kernel) ?_
  refine s_arr (len := 32) (k := 11) C K b10 (by omega) (fun _ => rfl) (by decide) fl_X11_113 rfl rfl (Or.inr (Or.inl rfl)) ac_long (by decide) (by rw [hZ]; exact Nat.le_of_ble_eq_true rfl) (by rw [hZ]; exact Nat.le_of_ble_eq_true rfl) dX11_init_509 dX11_init_511 (fun G11 b11 => ?_)
  refine x_aload_n C dX11_init_514 0 rfl rfl ?_
  refine x_bipush (v := nI 32) C dX11_init_515 (by decide +kernel) ?_
  refine s_arr (len := 32) (k := 12) C K b11 (by omega) (fun _ => rfl) (by decide) fl_X11_116 rfl rfl (Or.inl rfl) ac_int (by decide) (by rw [hZ]; exact Nat.le_of_ble_eq_true rfl) (by rw [hZ]; exact Nat.le_of_ble_eq_true rfl) dX11_init_517 dX11_init_519 (fun G12 b12 => ?_)
  refine x_aload_n C dX11_init_522 0 rfl rfl ?_
  refine x_bipush (v := nI 32) C dX11_init_523 (by decide +kernel) ?_
  refine s_arr (len := 32) (k := 13) C K b12 (by omega) (fun _ => rfl) (by decide) fl_X11_119 rfl rfl (Or.inl rfl) ac_int (by decide) (by rw [hZ]; exact Nat.le_of_ble_eq_true rfl) (by rw [hZ]; exact Nat.le_of_ble_eq_true rfl) dX11_init_525 dX11_init_527 (fun G13 b13 => ?_)
  refine x_aload_n C dX11_init_530 0 rfl rfl ?_
  refine x_bipush (v := nI 16) C dX11_init_531 (by decide +kernel) ?_
  refine s_arr (len := 16) (k := 14) C K b13 (by omega) (fun _ => rfl) (by decide) fl_X11_122 rfl rfl (Or.inl rfl) ac_int (by decide) (by rw [hZ]; exact Nat.le_of_ble_eq_true rfl) (by rw [hZ]; exact Nat.le_of_ble_eq_true rfl) dX11_init_533 dX11_init_535 (fun G14 b14 => ?_)
  refine x_aload_n C dX11_init_538 0 rfl rfl ?_
  refine x_bipush (v := nI 16) C dX11_init_539 (by decide +kernel) ?_
  refine s_arr (len := 16) (k := 15) C K b14 (by omega) (fun _ => rfl) (by decide) fl_X11_125 rfl rfl (Or.inl rfl) ac_int (by decide) (by rw [hZ]; exact Nat.le_of_ble_eq_true rfl) (by rw [hZ]; exact Nat.le_of_ble_eq_true rfl) dX11_init_541 dX11_init_543 (fun G15 b15 => ?_)
  refine x_aload_n C dX11_init_546 0 rfl rfl ?_
  refine x_bipush (v := nI 64) C dX11_init_547 (by decide +kernel) ?_
  refine s_arr (len := 64) (k := 16) C K b15 (by omega) (fun _ => rfl) (by decide) fl_X11_128 rfl rfl (Or.inl rfl) ac_int (by decide) (by rw [hZ]; exact Nat.le_of_ble_eq_true rfl) (by rw [hZ]; exact Nat.le_of_ble_eq_true rfl) dX11_init_549 dX11_init_551 (fun G16 b16 => ?_)
  refine x_aload_n C dX11_init_554 0 rfl rfl ?_
  refine x_bipush (v := nI 17) C dX11_init_555 (by decide +kernel) ?_
  refine s_arr (len := 17) (k := 17) C K b16 (by omega) (fun _ => rfl) (by decide) fl_X11_131 rfl rfl (Or.inl rfl) ac_int (by decide) (by rw [hZ]; exact Nat.le_of_ble_eq_true rfl) (by rw [hZ]; exact Nat.le_of_ble_eq_true rfl) dX11_init_557 dX11_init_559 (fun G17 b17 => ?_)
  refine x_aload_n C dX11_init_562 0 rfl rfl ?_
  refine x_bipush (v := nI 17) C dX11_init_563 (by decide +kernel) ?_
  refine s_arr (len := 17) (k := 18) C K b17 (by omega) (fun _ => rfl) (by decide) fl_X11_134 rfl rfl (Or.inl rfl) ac_int (by decide) (by rw [hZ]; exact Nat.le_of_ble_eq_true rfl) (by rw [hZ]; exact Nat.le_of_ble_eq_true rfl) dX11_init_565 dX11_init_567 (fun G18 b18 => ?_)
  refine x_aload_n C dX11_init_570 0 rfl rfl ?_
  refine x_bipush (v := nI 17) C dX11_init_571 (by decide +kernel) ?_
  refine s_arr (len := 17) (k := 19) C K b18 (by omega) (fun _ => rfl) (by decide) fl_X11_137 rfl rfl (Or.inl rfl) ac_int (by decide) (by rw [hZ]; exact Nat.le_of_ble_eq_true rfl) (by rw [hZ]; exact Nat.le_of_ble_eq_true rfl) dX11_init_573 dX11_init_575 (fun G19 b19 => ?_)
  refine x_aload_n C dX11_init_578 0 rfl rfl ?_
  refine x_bipush (v := nI 17) C dX11_init_579 (by decide +kernel) ?_
  refine s_arr (len := 17) (k := 20) C K b19 (by omega) (fun _ => rfl) (by decide) fl_X11_140 rfl rfl (Or.inl rfl) ac_int (by decide) (by rw [hZ]; exact Nat.le_of_ble_eq_true rfl) (by rw [hZ]; exact Nat.le_of_ble_eq_true rfl) dX11_init_581 dX11_init_583 (fun G20 b20 => ?_)
  refine x_aload_n C dX11_init_586 0 rfl rfl ?_
  refine x_bipush (v := nI 32) C dX11_init_587 (by decide +kernel) ?_
  refine s_arr (len := 32) (k := 21) C K b20 (by omega) (fun _ => rfl) (by decide) fl_X11_143 rfl rfl (Or.inl rfl) ac_int (by decide) (by rw [hZ]; exact Nat.le_of_ble_eq_true rfl) (by rw [hZ]; exact Nat.le_of_ble_eq_true rfl) dX11_init_589 dX11_init_591 (fun G21 b21 => ?_)
  refine x_aload_n C dX11_init_594 0 rfl rfl ?_
  refine x_sipush (v := nI 200) C dX11_init_595 (by decide +kernel) ?_
  refine s_arr (len := 200) (k := 22) C K b21 (by omega) (fun _ => rfl) (by decide) fl_X11_146 rfl rfl (Or.inl rfl) ac_int (by decide) (by rw [hZ]; exact Nat.le_of_ble_eq_true rfl) (by rw [hZ]; exact Nat.le_of_ble_eq_true rfl) dX11_init_598 dX11_init_600 (fun G22 b22 => ?_)
  refine x_aload_n C dX11_init_603 0 rfl rfl ?_
  refine x_bipush (v := nI 16) C dX11_init_604 (by decide +kernel) ?_
  refine s_arr (len := 16) (k := 23) C K b22 (by omega) (fun _ => rfl) (by decide) fl_X11_149 rfl rfl (Or.inl rfl) ac_int (by decide) (by rw [hZ]; exact Nat.le_of_ble_eq_true rfl) (by rw [hZ]; exact Nat.le_of_ble_eq_true rfl) dX11_init_606 dX11_init_608 (fun G23 b23 => ?_)
  refine x_aload_n C dX11_init_611 0 rfl rfl ?_
  refine x_bipush (v := nI 16) C dX11_init_612 (by decide +kernel) ?_
  have b23s := b23.skip (by omega)
  refine s_arr (len := 16) (k := 25) C K b23s (by omega) (fun _ => rfl) (by decide) fl_X11_152 rfl rfl (Or.inr (Or.inr rfl)) ac_boolean (by decide) (by rw [hZ]; exact Nat.le_of_ble_eq_true rfl) (by rw [hZ]; exact Nat.le_of_ble_eq_true rfl) dX11_init_614 dX11_init_616 (fun G24 b24 => ?_)
  refine x_aload_n C dX11_init_619 0 rfl rfl ?_
  refine x_bipush (v := nI 8) C dX11_init_620 (by decide +kernel) ?_
  refine s_arr (len := 8) (k := 26) C K b24 (by omega) (fun _ => rfl) (by decide) fl_X11_156 rfl rfl (Or.inl rfl) ac_int (by decide) (by rw [hZ]; exact Nat.le_of_ble_eq_true rfl) (by rw [hZ]; exact Nat.le_of_ble_eq_true rfl) dX11_init_622 dX11_init_624 (fun G25 b25 => ?_)
  refine x_aload_n C dX11_init_627 0 rfl rfl ?_
  refine x_bipush (v := nI 48) C dX11_init_628 (by decide +kernel) ?_
  refine s_arr (len := 48) (k := 27) C K b25 (by omega) (fun _ => rfl) (by decide) fl_X11_159 rfl rfl (Or.inl rfl) ac_int (by decide) (by rw [hZ]; exact Nat.le_of_ble_eq_true rfl) (by rw [hZ]; exact Nat.le_of_ble_eq_true rfl) dX11_init_630 dX11_init_632 (fun G26 b26 => ?_)
  refine x_aload_n C dX11_init_635 0 rfl rfl ?_
  refine x_sipush (v := nI 240) C dX11_init_636 (by decide +kernel) ?_
  refine s_arr (len := 240) (k := 28) C K b26 (by omega) (fun _ => rfl) (by decide) fl_X11_162 rfl rfl (Or.inl rfl) ac_int (by decide) (by rw [hZ]; exact Nat.le_of_ble_eq_true rfl) (by rw [hZ]; exact Nat.le_of_ble_eq_true rfl) dX11_init_639 dX11_init_641 (fun G27 b27 => ?_)
  refine x_aload_n C dX11_init_644 0 rfl rfl ?_
  refine x_iconst (v := nI 2) C dX11_init_645 (by decide +kernel) ?_
  refine s_arr (len := 2) (k := 29) C K b27 (by omega) (fun _ => rfl) (by decide) fl_X11_165 rfl rfl (Or.inr (Or.inr rfl)) ac_boolean (by decide) (by rw [hZ]; exact Nat.le_of_ble_eq_true rfl) (by rw [hZ]; exact Nat.le_of_ble_eq_true rfl) dX11_init_646 dX11_init_648 (fun G28 b28 => ?_)
  refine x_aload_n C dX11_init_651 0 rfl rfl ?_
  refine x_iconst (v := nI 2) C dX11_init_652 (by decide +kernel) ?_
  refine s_arr (len := 2) (k := 30) C K b28 (by omega) (fun _ => rfl) (by decide) fl_X11_168 rfl rfl (Or.inr (Or.inr rfl)) ac_boolean (by decide) (by rw [hZ]; exact Nat.le_of_ble_eq_true rfl) (by rw [hZ]; exact Nat.le_of_ble_eq_true rfl) dX11_init_653 dX11_init_655 (fun G29 b29 => ?_)
  refine x_aload_n C dX11_init_658 0 rfl rfl ?_
  refine x_bipush (v := nI 6) C dX11_init_659 (by decide +kernel) ?_
  refine s_arr (len := 6) (k := 31) C K b29 (by omega) (fun _ => rfl) (by decide) fl_X11_171 rfl rfl (Or.inr (Or.inr rfl)) ac_boolean (by decide) (by rw [hZ]; exact Nat.le_of_ble_eq_true rfl) (by rw [hZ]; exact Nat.le_of_ble_eq_true rfl) dX11_init_661 dX11_init_663 (fun G30 b30 => ?_)
  refine x_aload_n C dX11_init_666 0 rfl rfl ?_
  refine x_bipush (v := nI 6) C dX11_init_667 (by decide +kernel) ?_
  refine s_arr (len := 6) (k := 32) C K b30 (by omega) (fun _ => rfl) (by decide) fl_X11_174 rfl rfl (Or.inr (Or.inr rfl)) ac_boolean (by decide) (by rw [hZ]; exact Nat.le_of_ble_eq_true rfl) (by rw [hZ]; exact Nat.le_of_ble_eq_true rfl) dX11_init_669 dX11_init_671 (fun G31 b31 => ?_)
  refine x_aload_n C dX11_init_674 0 rfl rfl ?_
  refine x_iconst (v := nI 5) C dX11_init_675 (by decide +kernel) ?_
  have b31s := b31.skip (by omega)
  refine s_arr (len := 5) (k := 34) C K b31s (by omega) (fun _ => rfl) (by decide) fl_X11_177 rfl rfl (Or.inl rfl) ac_int (by decide) (by rw [hZ]; exact Nat.le_of_ble_eq_true rfl) (by rw [hZ]; exact Nat.le_of_ble_eq_true rfl) dX11_init_676 dX11_init_678 (fun G32 b32 => ?_)
  refine x_aload_n C dX11_init_681 0 rfl rfl ?_
  refine x_iconst (v := nI 5) C dX11_init_682 (by decide +kernel) ?_
  refine s_arr (len := 5) (k := 35) C K b32 (by omega) (fun _ => rfl) (by decide) fl_X11_180 rfl rfl (Or.inl rfl) ac_int (by decide) (by rw [hZ]; exact Nat.le_of_ble_eq_true rfl) (by rw [hZ]; exact Nat.le_of_ble_eq_true rfl) dX11_init_683 dX11_init_685 (fun G33 b33 => ?_)
  refine x_aload_n C dX11_init_688 0 rfl rfl ?_
  refine x_iconst (v := nI 5) C dX11_init_689 (by decide +kernel) ?_
  refine s_arr (len := 5) (k := 36) C K b33 (by omega) (fun _ => rfl) (by decide) fl_X11_183 rfl rfl (Or.inr (Or.inr rfl)) ac_boolean (by decide) (by rw [hZ]; exact Nat.le_of_ble_eq_true rfl) (by rw [hZ]; exact Nat.le_of_ble_eq_true rfl) dX11_init_690 dX11_init_692 (fun G34 b34 => ?_)
  refine x_aload_n C dX11_init_695 0 rfl rfl ?_
  refine x_iconst (v := nI 5) C dX11_init_696 (by decide +kernel) ?_
  refine s_arr (len := 5) (k := 37) C K b34 (by omega) (fun _ => rfl) (by decide) fl_X11_186 rfl rfl (Or.inl rfl) ac_int (by decide) (by rw [hZ]; exact Nat.le_of_ble_eq_true rfl) (by rw [hZ]; exact Nat.le_of_ble_eq_true rfl) dX11_init_697 dX11_init_699 (fun G35 b35 => ?_)
  refine x_aload_n C dX11_init_702 0 rfl rfl ?_
  refine x_iconst (v := nI 5) C dX11_init_703 (by decide +kernel) ?_
  refine s_arr (len := 5) (k := 38) C K b35 (by omega) (fun _ => rfl) (by decide) fl_X11_189 rfl rfl (Or.inl rfl) ac_int (by decide) (by rw [hZ]; exact Nat.le_of_ble_eq_true rfl) (by rw [hZ]; exact Nat.le_of_ble_eq_true rfl) dX11_init_704 dX11_init_706 (fun G36 b36 => ?_)
  refine x_aload_n C dX11_init_709 0 rfl rfl ?_
  refine x_iconst (v := nI 5) C dX11_init_710 (by decide +kernel) ?_
  refine s_arr (len := 5) (k := 39) C K b36 (by omega) (fun _ => rfl) (by decide) fl_X11_192 rfl rfl (Or.inl rfl) ac_int (by decide) (by rw [hZ]; exact Nat.le_of_ble_eq_true rfl) (by rw [hZ]; exact Nat.le_of_ble_eq_true rfl) dX11_init_711 dX11_init_713 (fun G37 b37 => ?_)
  refine x_aload_n C dX11_init_716 0 rfl rfl ?_
  refine x_iconst (v := nI 5) C dX11_init_717 (by decide +kernel) ?_
  refine s_arr (len := 5) (k := 40) C K b37 (by omega) (fun _ => rfl) (by decide) fl_X11_195 rfl rfl (Or.inl rfl) ac_int (by decide) (by rw [hZ]; exact Nat.le_of_ble_eq_true rfl) (by rw [hZ]; exact Nat.le_of_ble_eq_true rfl) dX11_init_718 dX11_init_720 (fun G38 b38 => ?_)
  refine x_aload_n C dX11_init_723 0 rfl rfl ?_
  refine x_iconst (v := nI 5) C dX11_init_724 (by decide +kernel) ?_
  refine s_arr (len := 5) (k := 41) C K b38 (by omega) (fun _ => rfl) (by decide) fl_X11_198 rfl rfl (Or.inr (Or.inr rfl)) ac_boolean (by decide) (by rw [hZ]; exact Nat.le_of_ble_eq_true rfl) (by rw [hZ]; exact Nat.le_of_ble_eq_true rfl) dX11_init_725 dX11_init_727 (fun G39 b39 => ?_)
  refine x_aload_n C dX11_init_730 0 rfl rfl ?_
  refine x_iconst (v := nI 5) C dX11_init_731 (by decide +kernel) ?_
  refine s_arr (len := 5) (k := 42) C K b39 (by omega) (fun _ => rfl) (by decide) fl_X11_201 rfl rfl (Or.inr (Or.inr rfl)) ac_boolean (by decide) (by rw [hZ]; exact Nat.le_of_ble_eq_true rfl) (by rw [hZ]; exact Nat.le_of_ble_eq_true rfl) dX11_init_732 dX11_init_734 (fun G40 b40 => ?_)
  refine x_aload_n C dX11_init_737 0 rfl rfl ?_
  refine x_iconst (v := nI 5) C dX11_init_738 (by decide +kernel) ?_
  refine s_arr (len := 5) (k := 43) C K b40 (by omega) (fun _ => rfl) (by decide) fl_X11_204 rfl rfl (Or.inl rfl) ac_int (by decide) (by rw [hZ]; exact Nat.le_of_ble_eq_true rfl) (by rw [hZ]; exact Nat.le_of_ble_eq_true rfl) dX11_init_739 dX11_init_741 (fun G41 b41 => ?_)
  refine x_aload_n C dX11_init_744 0 rfl rfl ?_
  refine x_iconst (v := nI 5) C dX11_init_745 (by decide +kernel) ?_
  refine s_arr (len := 5) (k := 44) C K b41 (by omega) (fun _ => rfl) (by decide) fl_X11_207 rfl rfl (Or.inl rfl) ac_int (by decide) (by rw [hZ]; exact Nat.le_of_ble_eq_true rfl) (by rw [hZ]; exact Nat.le_of_ble_eq_true rfl) dX11_init_746 dX11_init_748 (fun G42 b42 => ?_)
  refine x_aload_n C dX11_init_751 0 rfl rfl ?_
  refine x_iconst (v := nI 5) C dX11_init_752 (by decide +kernel) ?_
  refine s_arr (len := 5) (k := 45) C K b42 (by omega) (fun _ => rfl) (by decide) fl_X11_210 rfl rfl (Or.inr (Or.inr rfl)) ac_boolean (by decide) (by rw [hZ]; exact Nat.le_of_ble_eq_true rfl) (by rw [hZ]; exact Nat.le_of_ble_eq_true rfl) dX11_init_753 dX11_init_755 (fun G43 b43 => ?_)
  refine x_aload_n C dX11_init_758 0 rfl rfl ?_
  refine x_iconst (v := nI 5) C dX11_init_759 (by decide +kernel) ?_
  refine s_arr (len := 5) (k := 46) C K b43 (by omega) (fun _ => rfl) (by decide) fl_X11_213 rfl rfl (Or.inr (Or.inr rfl)) ac_boolean (by decide) (by rw [hZ]; exact Nat.le_of_ble_eq_true rfl) (by rw [hZ]; exact Nat.le_of_ble_eq_true rfl) dX11_init_760 dX11_init_762 (fun G44 b44 => ?_)
  refine x_aload_n C dX11_init_765 0 rfl rfl ?_
  refine x_sipush (v := nI 160) C dX11_init_766 (by decide +kernel) ?_
  refine s_arr (len := 160) (k := 47) C K b44 (by omega) (fun _ => rfl) (by decide) fl_X11_216 rfl rfl (Or.inl rfl) ac_int (by decide) (by rw [hZ]; exact Nat.le_of_ble_eq_true rfl) (by rw [hZ]; exact Nat.le_of_ble_eq_true rfl) dX11_init_769 dX11_init_771 (fun G45 b45 => ?_)
  refine x_aload_n C dX11_init_774 0 rfl rfl ?_
  refine x_sipush (v := nI 160) C dX11_init_775 (by decide +kernel) ?_
  refine s_arr (len := 160) (k := 48) C K b45 (by omega) (fun _ => rfl) (by decide) fl_X11_219 rfl rfl (Or.inl rfl) ac_int (by decide) (by rw [hZ]; exact Nat.le_of_ble_eq_true rfl) (by rw [hZ]; exact Nat.le_of_ble_eq_true rfl) dX11_init_778 dX11_init_780 (fun G46 b46 => ?_)
  refine x_aload_n C dX11_init_783 0 rfl rfl ?_
  refine x_sipush (v := nI 160) C dX11_init_784 (by decide +kernel) ?_
  refine s_arr (len := 160) (k := 49) C K b46 (by omega) (fun _ => rfl) (by decide) fl_X11_222 rfl rfl (Or.inl rfl) ac_int (by decide) (by rw [hZ]; exact Nat.le_of_ble_eq_true rfl) (by rw [hZ]; exact Nat.le_of_ble_eq_true rfl) dX11_init_787 dX11_init_789 (fun G47 b47 => ?_)
  refine x_aload_n C dX11_init_792 0 rfl rfl ?_
  refine x_sipush (v := nI 160) C dX11_init_793 (by decide +kernel) ?_
  refine s_arr (len := 160) (k := 50) C K b47 (by omega) (fun _ => rfl) (by decide) fl_X11_225 rfl rfl (Or.inl rfl) ac_int (by decide) (by rw [hZ]; exact Nat.le_of_ble_eq_true rfl) (by rw [hZ]; exact Nat.le_of_ble_eq_true rfl) dX11_init_796 dX11_init_798 (fun G48 b48 => ?_)
  refine x_aload_n C dX11_init_801 0 rfl rfl ?_
  refine x_sipush (v := nI 160) C dX11_init_802 (by decide +kernel) ?_
  refine s_arr (len := 160) (k := 51) C K b48 (by omega) (fun _ => rfl) (by decide) fl_X11_228 rfl rfl (Or.inl rfl) ac_int (by decide) (by rw [hZ]; exact Nat.le_of_ble_eq_true rfl) (by rw [hZ]; exact Nat.le_of_ble_eq_true rfl) dX11_init_805 dX11_init_807 (fun G49 b49 => ?_)
  refine x_aload_n C dX11_init_810 0 rfl rfl ?_
  refine x_sipush (v := nI 160) C dX11_init_811 (by decide +kernel) ?_
  refine s_arr (len := 160) (k := 52) C K b49 (by omega) (fun _ => rfl) (by decide) fl_X11_231 rfl rfl (Or.inl rfl) ac_int (by decide) (by rw [hZ]; exact Nat.le_of_ble_eq_true rfl) (by rw [hZ]; exact Nat.le_of_ble_eq_true rfl) dX11_init_814 dX11_init_816 (fun G50 b50 => ?_)
  refine x_aload_n C dX11_init_819 0 rfl rfl ?_
  refine x_sipush (v := nI 160) C dX11_init_820 (by decide +kernel) ?_
  refine s_arr (len := 160) (k := 53) C K b50 (by omega) (fun _ => rfl) (by decide) fl_X11_234 rfl rfl (Or.inl rfl) ac_int (by decide) (by rw [hZ]; exact Nat.le_of_ble_eq_true rfl) (by rw [hZ]; exact Nat.le_of_ble_eq_true rfl) dX11_init_823 dX11_init_825 (fun G51 b51 => ?_)
  refine x_aload_n C dX11_init_828 0 rfl rfl ?_
  refine x_sipush (v := nI 160) C dX11_init_829 (by decide +kernel) ?_
  refine s_arr (len := 160) (k := 54) C K b51 (by omega) (fun _ => rfl) (by decide) fl_X11_237 rfl rfl (Or.inl rfl) ac_int (by decide) (by rw [hZ]; exact Nat.le_of_ble_eq_true rfl) (by rw [hZ]; exact Nat.le_of_ble_eq_true rfl) dX11_init_832 dX11_init_834 (fun G52 b52 => ?_)
  refine x_aload_n C dX11_init_837 0 rfl rfl ?_
  refine x_bipush (v := nI 64) C dX11_init_838 (by decide +kernel) ?_
  refine s_arr (len := 64) (k := 55) C K b52 (by omega) (fun _ => rfl) (by decide) fl_X11_240 rfl rfl (Or.inl rfl) ac_int (by decide) (by rw [hZ]; exact Nat.le_of_ble_eq_true rfl) (by rw [hZ]; exact Nat.le_of_ble_eq_true rfl) dX11_init_840 dX11_init_842 (fun G53 b53 => ?_)
  refine x_aload_n C dX11_init_845 0 rfl rfl ?_
  refine x_sipush (v := nI 400) C dX11_init_846 (by decide +kernel) ?_
  have b53s := b53.skip (by omega)
  refine s_arr (len := 400) (k := 57) C K b53s (by omega) (fun _ => rfl) (by decide) fl_X11_243 rfl rfl (Or.inl rfl) ac_int (by decide) (by rw [hZ]; exact Nat.le_of_ble_eq_true rfl) (by rw [hZ]; exact Nat.le_of_ble_eq_true rfl) dX11_init_849 dX11_init_851 (fun G54 b54 => ?_)
  refine x_aload_n C dX11_init_854 0 rfl rfl ?_
  refine x_sipush (v := nI 400) C dX11_init_855 (by decide +kernel) ?_
  have b54s := b54.skip (by omega)
  refine s_arr (len := 400) (k := 59) C K b54s (by omega) (fun _ => rfl) (by decide) fl_X11_246 rfl rfl (Or.inl rfl) ac_int (by decide) (by rw [hZ]; exact Nat.le_of_ble_eq_true rfl) (by rw [hZ]; exact Nat.le_of_ble_eq_true rfl) dX11_init_858 dX11_init_860 (fun G55 b55 => ?_)
  refine x_aload_n C dX11_init_863 0 rfl rfl ?_
  refine x_sipush (v := nI 400) C dX11_init_864 (by decide +kernel) ?_
  have b55s := b55.skip (by omega)
  refine s_arr (len := 400) (k := 61) C K b55s (by omega) (fun _ => rfl) (by decide) fl_X11_249 rfl rfl (Or.inl rfl) ac_int (by decide) (by rw [hZ]; exact Nat.le_of_ble_eq_true rfl) (by rw [hZ]; exact Nat.le_of_ble_eq_true rfl) dX11_init_867 dX11_init_869 (fun G56 b56 => ?_)
  refine x_aload_n C dX11_init_872 0 rfl rfl ?_
  refine x_bipush (v := nI 32) C dX11_init_873 (by decide +kernel) ?_
  refine s_arr (len := 32) (k := 62) C K b56 (by omega) (fun _ => rfl) (by decide) fl_X11_252 rfl rfl (Or.inl rfl) ac_int (by decide) (by rw [hZ]; exact Nat.le_of_ble_eq_true rfl) (by rw [hZ]; exact Nat.le_of_ble_eq_true rfl) dX11_init_875 dX11_init_877 (fun G57 b57 => ?_)
  exact x_vret C E (Nat.le_of_ble_eq_true rfl) (Nat.le_of_ble_eq_true rfl) dX11_init_880 ⟨rfl, b57⟩
