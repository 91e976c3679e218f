/-! ===== the law ===== -/
theorem sw_out {x : Int32} {n : Nat} (hn : n < 2 ^ 31) (h : ∀ k, k ≤ n → ¬ x = nI k) : x.toInt < 0 ∨ (n : Int) < x.toInt := by
  by_cases g : x.toInt < 0
  · exact Or.inl g
  · refine Or.inr (Int.not_le.mp fun g2 => ?_)
    exact h x.toInt.toNat (by omega) (sw_nI (by omega) (by omega))
section HXS
variable {z : hZ} {own : String} {cc : ByteArray} {cells slots pc : Nat} {G : hG} {lv : List (Nat × Value)} {rest : List Value} {b L : Nat} {xs : Nat → Int32}
theorem x_sldN (C : hC z own cc) (hS : va_X b L xs (zs z) (zs z).heap) (hbl : b < (zs z).heap.size) (hb0 : b < z0 z) {k : Nat} (hk : k < L) (hL : L < 2 ^ 31) (d : decode cc pc = .ok (.iaload, 1)) (kk : hX z cells slots G lv (pc + 1) (.int (xs k) :: rest)) : hX z cells slots G lv pc (.int (nI k) :: .ref b :: rest) := fun H locs ls h1 h2 h3 => va_sld C.1 C.2.1 hS hbl (Nat.not_le.mpr hb0) h2 (vp_in_nI hk hL) d (by rw [nI_clamp (by omega)]; exact kk H locs ls h1 h2 h3)
theorem x_slen (C : hC z own cc) (hS : va_X b L xs (zs z) (zs z).heap) (hbl : b < (zs z).heap.size) (hb0 : b < z0 z) (d : decode cc pc = .ok (.arraylength, 1)) (kk : hX z cells slots G lv (pc + 1) (.int (nI L) :: rest)) : hX z cells slots G lv pc (.ref b :: rest) := fun H locs ls h1 h2 h3 => va_slen C.1 C.2.1 hS hbl (Nat.not_le.mpr hb0) h2 d (kk H locs ls h1 h2 h3)
theorem x_ne0 (C : hC z own cc) {x : Int32} (d1 : decode cc pc = .ok (.ifCond .eq 7, 3)) (d2 : decode cc (pc + 3) = .ok (.iconst 1, 1)) (d3 : decode cc (pc + 4) = .ok (.goto 4, 3)) (d4 : decode cc (pc + 7) = .ok (.iconst 0, 1)) (kk : hX z cells slots G lv (pc + 8) (.int (bI (decide (¬ x = 0))) :: rest)) : hX z cells slots G lv pc (.int x :: rest) := by
  refine x_if_eq (tgt := pc + 7) C d1 (by omega) (fun c => ?_) (fun c => ?_)
  · refine x_iconst (v := nI 0) C d4 (by decide +kernel) ?_
    rw [decide_eq_false (fun h => h c)] at kk
    exact kk
  · refine x_iconst (v := nI 1) C d2 (by decide +kernel) ?_
    refine x_goto (tgt := pc + 8) C d3 (by omega) ?_
    rw [decide_eq_true c] at kk
    exact kk
end HXS
theorem x_pop2 {z : hZ} {own : String} {cc : ByteArray} {cells slots pc : Nat} {G : hG} {lv : List (Nat × Value)} {rest : List Value} (C : hC z own cc) {va : Value} (d : decode cc pc = .ok (.pop2, 1)) (hva : va.category = 2) (kk : hX z cells slots G lv (pc + 1) rest) : hX z cells slots G lv pc (va :: rest) := fun H locs ls h1 h2 h3 => lv_pop2_2 C.1 C.2.1 d hva (kk H locs ls h1 h2 h3)
/-- behind a call: the next turn -/
def lwJ (z : hZ) (b t : Nat) : Prop := ∀ (c s : Nat) (W : wW) (T : Nat → Option hKd) (I : Nat → Nat → Int32) (L : Nat → Nat → Int64) (R : Nat → Nat → Option Nat) (A : Nat → Nat), c ≤ 200 + 12 * (t + 1) → s ≤ 6000 + 343 * (t + 1) → XR (z0 z) (zS z) W T I R A → MR (z0 z) W T I R A → PI W → hX z c s (T, I, L, R, A) [(3, .int (nI (6 * t))), (2, .ref (A 63)), (1, .ref (A 100)), (0, .ref b)] 764 []
theorem lcmp_s (x : Int64) : lg_cmp x x = 0 := by unfold lg_cmp; simp
set_option maxHeartbeats 4000000 in
set_option maxRecDepth 100000 in
theorem arm_0 {z : hZ} (C : hC z RL code) (hZ : zR z = room_1) {b cl sl N t : Nat} (hcl : cl ≤ 200 + 12 * t) (hsl : sl ≤ 6000 + 343 * t) (hN : N ≤ 3072) (ht : 6 * t + 6 ≤ N) {xs : Nat → Int32} (hS : va_X b N xs (zs z) (zs z).heap) (hbl : b < (zs z).heap.size) (hb0 : b < z0 z) {W : wW} {T : Nat → Option hKd} {I : Nat → Nat → Int32} {L : Nat → Nat → Int64} {R : Nat → Nat → Option Nat} {A : Nat → Nat} (gX : XR (z0 z) (zS z) W T I R A) (gM : MR (z0 z) W T I R A) (hP : PI W) (J : lwJ z b t) : hX z cl sl (T, I, L, R, A) [(3, .int (nI (6 * t))), (2, .ref (A 63)), (1, .ref (A 100)), (0, .ref b)] 124 [] := by
  refine x_aload_n C dL_law_124 2 rfl rfl ?_
  refine x_aload_n C dL_law_125 3 rfl rfl ?_
  refine x_iload_n C dL_law_126 0 rfl rfl ?_
  refine x_iconst (v := nI 1) C dL_law_127 (by decide +kernel) ?_
  refine x_iaddN C dL_law_128 ?_
  refine x_sldN (k := 6 * t + 1) C hS hbl hb0 (by omega) (by omega) dL_law_129 ?_
  refine x_ne0 C dL_law_130 dL_law_133 dL_law_134 dL_law_137 ?_
  refine x_aload_n C dL_law_138 3 rfl rfl ?_
  refine x_iload_n C dL_law_139 0 rfl rfl ?_
  refine x_iconst (v := nI 2) C dL_law_140 (by decide +kernel) ?_
  refine x_iaddN C dL_law_141 ?_
  refine x_sldN (k := 6 * t + 2) C hS hbl hb0 (by omega) (by omega) dL_law_142 ?_
  refine x_ne0 C dL_law_143 dL_law_146 dL_law_147 dL_law_150 ?_
  refine x_callV C (xw_pattern gX gM hP (bI (decide (¬ xs (6 * t + 1) = 0))) (bI (decide (¬ xs (6 * t + 2) = 0))) (bI_01 _) (bI_01 _)) mv_X10_pattern ml_L_13 (gX.1.1.1 100 _ rfl).1 rfl rfl rfl (Nat.le_of_ble_eq_true rfl) (hrm (rm := { frames := 0, cells := 0, slots := 0, locals := 0 }) hZ ⟨Nat.le_of_ble_eq_true rfl, Nat.le_of_ble_eq_true rfl⟩) (hcs hZ ⟨by show cl + 9 ≤ 600000; omega, by show sl + 48 ≤ 7302250; omega⟩) dL_law_151 (fun v G' hp => ?_)
  obtain ⟨T1, I1, L1, R1, B1⟩ := G'
  obtain ⟨rfl, X1, M1, a1, a2⟩ := hp
  have X1 : XR (z0 z) (zS z) ((sPat W (bI (decide (¬ xs (6 * t + 1) = 0))) (bI (decide (¬ xs (6 * t + 2) = 0)))).1) T1 I1 R1 B1 := X1
  have M1 : MR (z0 z) W T1 I1 R1 B1 := M1
  have a1 : B1 100 = A 100 := a1
  have a2 : B1 63 = A 63 := a2
  rw [← a1, ← a2]
  show hX z (cl + 9) (sl + 48) (T1, I1, L1, R1, B1) [(3, .int (nI (6 * t))), (2, .ref (B1 63)), (1, .ref (B1 100)), (0, .ref b)] 154 [.int (sPat W (bI (decide (¬ xs (6 * t + 1) = 0))) (bI (decide (¬ xs (6 * t + 2) = 0)))).2]
  refine x_pop C dL_law_154 rfl ?_
  refine x_aload_n C dL_law_155 1 rfl rfl ?_
  refine x_aload_n C dL_law_156 3 rfl rfl ?_
  refine x_iload_n C dL_law_157 0 rfl rfl ?_
  refine x_iconst (v := nI 1) C dL_law_158 (by decide +kernel) ?_
  refine x_iaddN C dL_law_159 ?_
  refine x_sldN (k := 6 * t + 1) C hS hbl hb0 (by omega) (by omega) dL_law_160 ?_
  refine x_ne0 C dL_law_161 dL_law_164 dL_law_165 dL_law_168 ?_
  refine x_aload_n C dL_law_169 3 rfl rfl ?_
  refine x_iload_n C dL_law_170 0 rfl rfl ?_
  refine x_iconst (v := nI 2) C dL_law_171 (by decide +kernel) ?_
  refine x_iaddN C dL_law_172 ?_
  refine x_sldN (k := 6 * t + 2) C hS hbl hb0 (by omega) (by omega) dL_law_173 ?_
  refine x_ne0 C dL_law_174 dL_law_177 dL_law_178 dL_law_181 ?_
  refine x_callV C (mw_pattern X1 M1 hP (bI (decide (¬ xs (6 * t + 1) = 0))) (bI (decide (¬ xs (6 * t + 2) = 0))) (bI_01 _) (bI_01 _)) mv_X11_pattern ml_L_17 M1.1.1.1 rfl rfl rfl (Nat.le_of_ble_eq_true rfl) (hrm (rm := { frames := 0, cells := 0, slots := 0, locals := 0 }) hZ ⟨Nat.le_of_ble_eq_true rfl, Nat.le_of_ble_eq_true rfl⟩) (hcs hZ ⟨by show cl + 9 + 0 ≤ 600000; omega, by show sl + 48 + 0 ≤ 7302250; omega⟩) dL_law_182 (fun v G' hp => ?_)
  obtain ⟨T2, I2, L2, R2, B2⟩ := G'
  obtain ⟨rfl, X2, M2, b1, b2⟩ := hp
  have X2 : XR (z0 z) (zS z) ((sPat W (bI (decide (¬ xs (6 * t + 1) = 0))) (bI (decide (¬ xs (6 * t + 2) = 0)))).1) T2 I2 R2 B2 := X2
  have M2 : MR (z0 z) ((sPat W (bI (decide (¬ xs (6 * t + 1) = 0))) (bI (decide (¬ xs (6 * t + 2) = 0)))).1) T2 I2 R2 B2 := M2
  have b1 : B2 100 = B1 100 := b1
  have b2 : B2 63 = B1 63 := b2
  rw [← b1, ← b2]
  show hX z (cl + 9 + 0) (sl + 48 + 0) (T2, I2, L2, R2, B2) [(3, .int (nI (6 * t))), (2, .ref (B2 63)), (1, .ref (B2 100)), (0, .ref b)] 185 [.int (sPat W (bI (decide (¬ xs (6 * t + 1) = 0))) (bI (decide (¬ xs (6 * t + 2) = 0)))).2]
  refine x_pop C dL_law_185 rfl ?_
  refine x_goto (tgt := 764) C dL_law_186 (by decide) ?_
  exact J _ _ _ _ _ _ _ _ (by omega) (by omega) X2 M2 (pi_Pat hP (bI (decide (¬ xs (6 * t + 1) = 0))) (bI (decide (¬ xs (6 * t + 2) = 0))))
set_option maxHeartbeats 4000000 in
set_option maxRecDepth 100000 in
theorem arm_1 {z : hZ} (C : hC z RL code) (hZ : zR z = room_1) {b cl sl N t : Nat} (hcl : cl ≤ 200 + 12 * t) (hsl : sl ≤ 6000 + 343 * t) (hN : N ≤ 3072) (ht : 6 * t + 6 ≤ N) {xs : Nat → Int32} (hS : va_X b N xs (zs z) (zs z).heap) (hbl : b < (zs z).heap.size) (hb0 : b < z0 z) {W : wW} {T : Nat → Option hKd} {I : Nat → Nat → Int32} {L : Nat → Nat → Int64} {R : Nat → Nat → Option Nat} {A : Nat → Nat} (gX : XR (z0 z) (zS z) W T I R A) (gM : MR (z0 z) W T I R A) (hP : PI W) (J : lwJ z b t) : hX z cl sl (T, I, L, R, A) [(3, .int (nI (6 * t))), (2, .ref (A 63)), (1, .ref (A 100)), (0, .ref b)] 189 [] := by
  refine x_aload_n C dL_law_189 2 rfl rfl ?_
  refine x_aload_n C dL_law_190 3 rfl rfl ?_
  refine x_iload_n C dL_law_191 0 rfl rfl ?_
  refine x_iconst (v := nI 1) C dL_law_192 (by decide +kernel) ?_
  refine x_iaddN C dL_law_193 ?_
  refine x_sldN (k := 6 * t + 1) C hS hbl hb0 (by omega) (by omega) dL_law_194 ?_
  refine x_callV C (xw_message gX gM hP (xs (6 * t + 1))) mv_X10_message ml_L_18 (gX.1.1.1 100 _ rfl).1 rfl rfl rfl (Nat.le_of_ble_eq_true rfl) (hrm (rm := { frames := 0, cells := 0, slots := 0, locals := 0 }) hZ ⟨Nat.le_of_ble_eq_true rfl, Nat.le_of_ble_eq_true rfl⟩) (hcs hZ ⟨by show cl + 0 ≤ 600000; omega, by show sl + 0 ≤ 7302250; omega⟩) dL_law_195 (fun v G' hp => ?_)
  obtain ⟨T1, I1, L1, R1, B1⟩ := G'
  obtain ⟨rfl, X1, M1, a1, a2⟩ := hp
  have X1 : XR (z0 z) (zS z) ((sMsg W (xs (6 * t + 1))).1) T1 I1 R1 B1 := X1
  have M1 : MR (z0 z) W T1 I1 R1 B1 := M1
  have a1 : B1 100 = A 100 := a1
  have a2 : B1 63 = A 63 := a2
  rw [← a1, ← a2]
  show hX z (cl + 0) (sl + 0) (T1, I1, L1, R1, B1) [(3, .int (nI (6 * t))), (2, .ref (B1 63)), (1, .ref (B1 100)), (0, .ref b)] 198 [.int (sMsg W (xs (6 * t + 1))).2]
  refine x_pop C dL_law_198 rfl ?_
  refine x_aload_n C dL_law_199 1 rfl rfl ?_
  refine x_aload_n C dL_law_200 3 rfl rfl ?_
  refine x_iload_n C dL_law_201 0 rfl rfl ?_
  refine x_iconst (v := nI 1) C dL_law_202 (by decide +kernel) ?_
  refine x_iaddN C dL_law_203 ?_
  refine x_sldN (k := 6 * t + 1) C hS hbl hb0 (by omega) (by omega) dL_law_204 ?_
  refine x_callV C (mw_message X1 M1 hP (xs (6 * t + 1))) mv_X11_message ml_L_22 M1.1.1.1 rfl rfl rfl (Nat.le_of_ble_eq_true rfl) (hrm (rm := { frames := 0, cells := 0, slots := 0, locals := 0 }) hZ ⟨Nat.le_of_ble_eq_true rfl, Nat.le_of_ble_eq_true rfl⟩) (hcs hZ ⟨by show cl + 0 + 0 ≤ 600000; omega, by show sl + 0 + 0 ≤ 7302250; omega⟩) dL_law_205 (fun v G' hp => ?_)
  obtain ⟨T2, I2, L2, R2, B2⟩ := G'
  obtain ⟨rfl, X2, M2, b1, b2⟩ := hp
  have X2 : XR (z0 z) (zS z) ((sMsg W (xs (6 * t + 1))).1) T2 I2 R2 B2 := X2
  have M2 : MR (z0 z) ((sMsg W (xs (6 * t + 1))).1) T2 I2 R2 B2 := M2
  have b1 : B2 100 = B1 100 := b1
  have b2 : B2 63 = B1 63 := b2
  rw [← b1, ← b2]
  show hX z (cl + 0 + 0) (sl + 0 + 0) (T2, I2, L2, R2, B2) [(3, .int (nI (6 * t))), (2, .ref (B2 63)), (1, .ref (B2 100)), (0, .ref b)] 208 [.int (sMsg W (xs (6 * t + 1))).2]
  refine x_pop C dL_law_208 rfl ?_
  refine x_goto (tgt := 764) C dL_law_209 (by decide) ?_
  exact J _ _ _ _ _ _ _ _ (by omega) (by omega) X2 M2 (pi_Msg hP (xs (6 * t + 1)))
set_option maxHeartbeats 4000000 in
set_option maxRecDepth 100000 in
theorem arm_2 {z : hZ} (C : hC z RL code) (hZ : zR z = room_1) {b cl sl N t : Nat} (hcl : cl ≤ 200 + 12 * t) (hsl : sl ≤ 6000 + 343 * t) (hN : N ≤ 3072) (ht : 6 * t + 6 ≤ N) {xs : Nat → Int32} (hS : va_X b N xs (zs z) (zs z).heap) (hbl : b < (zs z).heap.size) (hb0 : b < z0 z) {W : wW} {T : Nat → Option hKd} {I : Nat → Nat → Int32} {L : Nat → Nat → Int64} {R : Nat → Nat → Option Nat} {A : Nat → Nat} (gX : XR (z0 z) (zS z) W T I R A) (gM : MR (z0 z) W T I R A) (hP : PI W) (J : lwJ z b t) : hX z cl sl (T, I, L, R, A) [(3, .int (nI (6 * t))), (2, .ref (A 63)), (1, .ref (A 100)), (0, .ref b)] 212 [] := by
  refine x_aload_n C dL_law_212 2 rfl rfl ?_
  refine x_aload_n C dL_law_213 3 rfl rfl ?_
  refine x_iload_n C dL_law_214 0 rfl rfl ?_
  refine x_iconst (v := nI 1) C dL_law_215 (by decide +kernel) ?_
  refine x_iaddN C dL_law_216 ?_
  refine x_sldN (k := 6 * t + 1) C hS hbl hb0 (by omega) (by omega) dL_law_217 ?_
  refine x_aload_n C dL_law_218 3 rfl rfl ?_
  refine x_iload_n C dL_law_219 0 rfl rfl ?_
  refine x_iconst (v := nI 2) C dL_law_220 (by decide +kernel) ?_
  refine x_iaddN C dL_law_221 ?_
  refine x_sldN (k := 6 * t + 2) C hS hbl hb0 (by omega) (by omega) dL_law_222 ?_
  refine x_callV C (xw_token gX gM hP (xs (6 * t + 1)) (xs (6 * t + 2))) mv_X10_token ml_L_23 (gX.1.1.1 100 _ rfl).1 rfl rfl rfl (Nat.le_of_ble_eq_true rfl) (hrm (rm := { frames := 0, cells := 0, slots := 0, locals := 0 }) hZ ⟨Nat.le_of_ble_eq_true rfl, Nat.le_of_ble_eq_true rfl⟩) (hcs hZ ⟨by show cl + 0 ≤ 600000; omega, by show sl + 0 ≤ 7302250; omega⟩) dL_law_223 (fun v G' hp => ?_)
  obtain ⟨T1, I1, L1, R1, B1⟩ := G'
  obtain ⟨rfl, X1, M1, a1, a2⟩ := hp
  have X1 : XR (z0 z) (zS z) ((sTok W (xs (6 * t + 1)) (xs (6 * t + 2))).1) T1 I1 R1 B1 := X1
  have M1 : MR (z0 z) W T1 I1 R1 B1 := M1
  have a1 : B1 100 = A 100 := a1
  have a2 : B1 63 = A 63 := a2
  rw [← a1, ← a2]
  show hX z (cl + 0) (sl + 0) (T1, I1, L1, R1, B1) [(3, .int (nI (6 * t))), (2, .ref (B1 63)), (1, .ref (B1 100)), (0, .ref b)] 226 [.int (sTok W (xs (6 * t + 1)) (xs (6 * t + 2))).2]
  refine x_pop C dL_law_226 rfl ?_
  refine x_aload_n C dL_law_227 1 rfl rfl ?_
  refine x_aload_n C dL_law_228 3 rfl rfl ?_
  refine x_iload_n C dL_law_229 0 rfl rfl ?_
  refine x_iconst (v := nI 1) C dL_law_230 (by decide +kernel) ?_
  refine x_iaddN C dL_law_231 ?_
  refine x_sldN (k := 6 * t + 1) C hS hbl hb0 (by omega) (by omega) dL_law_232 ?_
  refine x_aload_n C dL_law_233 3 rfl rfl ?_
  refine x_iload_n C dL_law_234 0 rfl rfl ?_
  refine x_iconst (v := nI 2) C dL_law_235 (by decide +kernel) ?_
  refine x_iaddN C dL_law_236 ?_
  refine x_sldN (k := 6 * t + 2) C hS hbl hb0 (by omega) (by omega) dL_law_237 ?_
  refine x_callV C (mw_token X1 M1 hP (xs (6 * t + 1)) (xs (6 * t + 2))) mv_X11_token ml_L_27 M1.1.1.1 rfl rfl rfl (Nat.le_of_ble_eq_true rfl) (hrm (rm := { frames := 0, cells := 0, slots := 0, locals := 0 }) hZ ⟨Nat.le_of_ble_eq_true rfl, Nat.le_of_ble_eq_true rfl⟩) (hcs hZ ⟨by show cl + 0 + 0 ≤ 600000; omega, by show sl + 0 + 0 ≤ 7302250; omega⟩) dL_law_238 (fun v G' hp => ?_)
  obtain ⟨T2, I2, L2, R2, B2⟩ := G'
  obtain ⟨rfl, X2, M2, b1, b2⟩ := hp
  have X2 : XR (z0 z) (zS z) ((sTok W (xs (6 * t + 1)) (xs (6 * t + 2))).1) T2 I2 R2 B2 := X2
  have M2 : MR (z0 z) ((sTok W (xs (6 * t + 1)) (xs (6 * t + 2))).1) T2 I2 R2 B2 := M2
  have b1 : B2 100 = B1 100 := b1
  have b2 : B2 63 = B1 63 := b2
  rw [← b1, ← b2]
  show hX z (cl + 0 + 0) (sl + 0 + 0) (T2, I2, L2, R2, B2) [(3, .int (nI (6 * t))), (2, .ref (B2 63)), (1, .ref (B2 100)), (0, .ref b)] 241 [.int (sTok W (xs (6 * t + 1)) (xs (6 * t + 2))).2]
  refine x_pop C dL_law_241 rfl ?_
  refine x_goto (tgt := 764) C dL_law_242 (by decide) ?_
  exact J _ _ _ _ _ _ _ _ (by omega) (by omega) X2 M2 (pi_Tok hP (xs (6 * t + 1)) (xs (6 * t + 2)))
set_option maxHeartbeats 4000000 in
set_option maxRecDepth 100000 in
theorem arm_3 {z : hZ} (C : hC z RL code) (hZ : zR z = room_1) {b cl sl N t : Nat} (hcl : cl ≤ 200 + 12 * t) (hsl : sl ≤ 6000 + 343 * t) (hN : N ≤ 3072) (ht : 6 * t + 6 ≤ N) {xs : Nat → Int32} (hS : va_X b N xs (zs z) (zs z).heap) (hbl : b < (zs z).heap.size) (hb0 : b < z0 z) {W : wW} {T : Nat → Option hKd} {I : Nat → Nat → Int32} {L : Nat → Nat → Int64} {R : Nat → Nat → Option Nat} {A : Nat → Nat} (gX : XR (z0 z) (zS z) W T I R A) (gM : MR (z0 z) W T I R A) (hP : PI W) (J : lwJ z b t) : hX z cl sl (T, I, L, R, A) [(3, .int (nI (6 * t))), (2, .ref (A 63)), (1, .ref (A 100)), (0, .ref b)] 245 [] := by
  refine x_aload_n C dL_law_245 2 rfl rfl ?_
  refine x_aload_n C dL_law_246 3 rfl rfl ?_
  refine x_iload_n C dL_law_247 0 rfl rfl ?_
  refine x_iconst (v := nI 1) C dL_law_248 (by decide +kernel) ?_
  refine x_iaddN C dL_law_249 ?_
  refine x_sldN (k := 6 * t + 1) C hS hbl hb0 (by omega) (by omega) dL_law_250 ?_
  refine x_callV C (xw_fault gX gM hP (xs (6 * t + 1))) mv_X10_fault ml_L_28 (gX.1.1.1 100 _ rfl).1 rfl rfl rfl (Nat.le_of_ble_eq_true rfl) (hrm (rm := { frames := 0, cells := 0, slots := 0, locals := 0 }) hZ ⟨Nat.le_of_ble_eq_true rfl, Nat.le_of_ble_eq_true rfl⟩) (hcs hZ ⟨by show cl + 0 ≤ 600000; omega, by show sl + 0 ≤ 7302250; omega⟩) dL_law_251 (fun v G' hp => ?_)
  obtain ⟨T1, I1, L1, R1, B1⟩ := G'
  obtain ⟨rfl, X1, M1, a1, a2⟩ := hp
  have X1 : XR (z0 z) (zS z) ((sFlt W (xs (6 * t + 1))).1) T1 I1 R1 B1 := X1
  have M1 : MR (z0 z) W T1 I1 R1 B1 := M1
  have a1 : B1 100 = A 100 := a1
  have a2 : B1 63 = A 63 := a2
  rw [← a1, ← a2]
  show hX z (cl + 0) (sl + 0) (T1, I1, L1, R1, B1) [(3, .int (nI (6 * t))), (2, .ref (B1 63)), (1, .ref (B1 100)), (0, .ref b)] 254 [.int (sFlt W (xs (6 * t + 1))).2]
  refine x_pop C dL_law_254 rfl ?_
  refine x_aload_n C dL_law_255 1 rfl rfl ?_
  refine x_aload_n C dL_law_256 3 rfl rfl ?_
  refine x_iload_n C dL_law_257 0 rfl rfl ?_
  refine x_iconst (v := nI 1) C dL_law_258 (by decide +kernel) ?_
  refine x_iaddN C dL_law_259 ?_
  refine x_sldN (k := 6 * t + 1) C hS hbl hb0 (by omega) (by omega) dL_law_260 ?_
  refine x_callV C (mw_fault X1 M1 hP (xs (6 * t + 1))) mv_X11_fault ml_L_31 M1.1.1.1 rfl rfl rfl (Nat.le_of_ble_eq_true rfl) (hrm (rm := { frames := 0, cells := 0, slots := 0, locals := 0 }) hZ ⟨Nat.le_of_ble_eq_true rfl, Nat.le_of_ble_eq_true rfl⟩) (hcs hZ ⟨by show cl + 0 + 0 ≤ 600000; omega, by show sl + 0 + 0 ≤ 7302250; omega⟩) dL_law_261 (fun v G' hp => ?_)
  obtain ⟨T2, I2, L2, R2, B2⟩ := G'
  obtain ⟨rfl, X2, M2, b1, b2⟩ := hp
  have X2 : XR (z0 z) (zS z) ((sFlt W (xs (6 * t + 1))).1) T2 I2 R2 B2 := X2
  have M2 : MR (z0 z) ((sFlt W (xs (6 * t + 1))).1) T2 I2 R2 B2 := M2
  have b1 : B2 100 = B1 100 := b1
  have b2 : B2 63 = B1 63 := b2
  rw [← b1, ← b2]
  show hX z (cl + 0 + 0) (sl + 0 + 0) (T2, I2, L2, R2, B2) [(3, .int (nI (6 * t))), (2, .ref (B2 63)), (1, .ref (B2 100)), (0, .ref b)] 264 [.int (sFlt W (xs (6 * t + 1))).2]
  refine x_pop C dL_law_264 rfl ?_
  refine x_goto (tgt := 764) C dL_law_265 (by decide) ?_
  exact J _ _ _ _ _ _ _ _ (by omega) (by omega) X2 M2 (by unfold sFlt; repeat (first | exact hP | split))
set_option maxHeartbeats 4000000 in
set_option maxRecDepth 100000 in
theorem arm_4 {z : hZ} (C : hC z RL code) (hZ : zR z = room_1) {b cl sl N t : Nat} (hcl : cl ≤ 200 + 12 * t) (hsl : sl ≤ 6000 + 343 * t) (hN : N ≤ 3072) (ht : 6 * t + 6 ≤ N) {xs : Nat → Int32} (hS : va_X b N xs (zs z) (zs z).heap) (hbl : b < (zs z).heap.size) (hb0 : b < z0 z) {W : wW} {T : Nat → Option hKd} {I : Nat → Nat → Int32} {L : Nat → Nat → Int64} {R : Nat → Nat → Option Nat} {A : Nat → Nat} (gX : XR (z0 z) (zS z) W T I R A) (gM : MR (z0 z) W T I R A) (hP : PI W) (J : lwJ z b t) : hX z cl sl (T, I, L, R, A) [(3, .int (nI (6 * t))), (2, .ref (A 63)), (1, .ref (A 100)), (0, .ref b)] 268 [] := by
  refine x_aload_n C dL_law_268 2 rfl rfl ?_
  refine x_aload_n C dL_law_269 3 rfl rfl ?_
  refine x_iload_n C dL_law_270 0 rfl rfl ?_
  refine x_iconst (v := nI 1) C dL_law_271 (by decide +kernel) ?_
  refine x_iaddN C dL_law_272 ?_
  refine x_sldN (k := 6 * t + 1) C hS hbl hb0 (by omega) (by omega) dL_law_273 ?_
  refine x_aload_n C dL_law_274 3 rfl rfl ?_
  refine x_iload_n C dL_law_275 0 rfl rfl ?_
  refine x_iconst (v := nI 2) C dL_law_276 (by decide +kernel) ?_
  refine x_iaddN C dL_law_277 ?_
  refine x_sldN (k := 6 * t + 2) C hS hbl hb0 (by omega) (by omega) dL_law_278 ?_
  refine x_callV C (xw_told gX gM hP (xs (6 * t + 1)) (xs (6 * t + 2))) mv_X10_told ml_L_32 (gX.1.1.1 100 _ rfl).1 rfl rfl rfl (Nat.le_of_ble_eq_true rfl) (hrm (rm := { frames := 0, cells := 0, slots := 0, locals := 0 }) hZ ⟨Nat.le_of_ble_eq_true rfl, Nat.le_of_ble_eq_true rfl⟩) (hcs hZ ⟨by show cl + 0 ≤ 600000; omega, by show sl + 0 ≤ 7302250; omega⟩) dL_law_279 (fun v G' hp => ?_)
  obtain ⟨T1, I1, L1, R1, B1⟩ := G'
  obtain ⟨rfl, X1, M1, a1, a2⟩ := hp
  have X1 : XR (z0 z) (zS z) ((sTld W (xs (6 * t + 1)) (xs (6 * t + 2))).1) T1 I1 R1 B1 := X1
  have M1 : MR (z0 z) W T1 I1 R1 B1 := M1
  have a1 : B1 100 = A 100 := a1
  have a2 : B1 63 = A 63 := a2
  rw [← a1, ← a2]
  show hX z (cl + 0) (sl + 0) (T1, I1, L1, R1, B1) [(3, .int (nI (6 * t))), (2, .ref (B1 63)), (1, .ref (B1 100)), (0, .ref b)] 282 [.int (sTld W (xs (6 * t + 1)) (xs (6 * t + 2))).2]
  refine x_pop C dL_law_282 rfl ?_
  refine x_aload_n C dL_law_283 1 rfl rfl ?_
  refine x_aload_n C dL_law_284 3 rfl rfl ?_
  refine x_iload_n C dL_law_285 0 rfl rfl ?_
  refine x_iconst (v := nI 1) C dL_law_286 (by decide +kernel) ?_
  refine x_iaddN C dL_law_287 ?_
  refine x_sldN (k := 6 * t + 1) C hS hbl hb0 (by omega) (by omega) dL_law_288 ?_
  refine x_aload_n C dL_law_289 3 rfl rfl ?_
  refine x_iload_n C dL_law_290 0 rfl rfl ?_
  refine x_iconst (v := nI 2) C dL_law_291 (by decide +kernel) ?_
  refine x_iaddN C dL_law_292 ?_
  refine x_sldN (k := 6 * t + 2) C hS hbl hb0 (by omega) (by omega) dL_law_293 ?_
  refine x_callV C (mw_told X1 M1 hP (xs (6 * t + 1)) (xs (6 * t + 2))) mv_X11_told ml_L_35 M1.1.1.1 rfl rfl rfl (Nat.le_of_ble_eq_true rfl) (hrm (rm := { frames := 0, cells := 0, slots := 0, locals := 0 }) hZ ⟨Nat.le_of_ble_eq_true rfl, Nat.le_of_ble_eq_true rfl⟩) (hcs hZ ⟨by show cl + 0 + 0 ≤ 600000; omega, by show sl + 0 + 0 ≤ 7302250; omega⟩) dL_law_294 (fun v G' hp => ?_)
  obtain ⟨T2, I2, L2, R2, B2⟩ := G'
  obtain ⟨rfl, X2, M2, b1, b2⟩ := hp
  have X2 : XR (z0 z) (zS z) ((sTld W (xs (6 * t + 1)) (xs (6 * t + 2))).1) T2 I2 R2 B2 := X2
  have M2 : MR (z0 z) ((sTld W (xs (6 * t + 1)) (xs (6 * t + 2))).1) T2 I2 R2 B2 := M2
  have b1 : B2 100 = B1 100 := b1
  have b2 : B2 63 = B1 63 := b2
  rw [← b1, ← b2]
  show hX z (cl + 0 + 0) (sl + 0 + 0) (T2, I2, L2, R2, B2) [(3, .int (nI (6 * t))), (2, .ref (B2 63)), (1, .ref (B2 100)), (0, .ref b)] 297 [.int (sTld W (xs (6 * t + 1)) (xs (6 * t + 2))).2]
  refine x_pop C dL_law_297 rfl ?_
  refine x_goto (tgt := 764) C dL_law_298 (by decide) ?_
  exact J _ _ _ _ _ _ _ _ (by omega) (by omega) X2 M2 (by unfold sTld; repeat (first | exact hP | split))
set_option maxHeartbeats 4000000 in
set_option maxRecDepth 100000 in
theorem arm_5 {z : hZ} (C : hC z RL code) (hZ : zR z = room_1) {b cl sl N t : Nat} (hcl : cl ≤ 200 + 12 * t) (hsl : sl ≤ 6000 + 343 * t) (hN : N ≤ 3072) (ht : 6 * t + 6 ≤ N) {xs : Nat → Int32} (hS : va_X b N xs (zs z) (zs z).heap) (hbl : b < (zs z).heap.size) (hb0 : b < z0 z) {W : wW} {T : Nat → Option hKd} {I : Nat → Nat → Int32} {L : Nat → Nat → Int64} {R : Nat → Nat → Option Nat} {A : Nat → Nat} (gX : XR (z0 z) (zS z) W T I R A) (gM : MR (z0 z) W T I R A) (hP : PI W) (J : lwJ z b t) : hX z cl sl (T, I, L, R, A) [(3, .int (nI (6 * t))), (2, .ref (A 63)), (1, .ref (A 100)), (0, .ref b)] 301 [] := by
  refine x_aload_n C dL_law_301 2 rfl rfl ?_
  refine x_aload_n C dL_law_302 3 rfl rfl ?_
  refine x_iload_n C dL_law_303 0 rfl rfl ?_
  refine x_iconst (v := nI 1) C dL_law_304 (by decide +kernel) ?_
  refine x_iaddN C dL_law_305 ?_
  refine x_sldN (k := 6 * t + 1) C hS hbl hb0 (by omega) (by omega) dL_law_306 ?_
  refine x_aload_n C dL_law_307 3 rfl rfl ?_
  refine x_iload_n C dL_law_308 0 rfl rfl ?_
  refine x_iconst (v := nI 2) C dL_law_309 (by decide +kernel) ?_
  refine x_iaddN C dL_law_310 ?_
  refine x_sldN (k := 6 * t + 2) C hS hbl hb0 (by omega) (by omega) dL_law_311 ?_
  refine x_aload_n C dL_law_312 3 rfl rfl ?_
  refine x_iload_n C dL_law_313 0 rfl rfl ?_
  refine x_iconst (v := nI 3) C dL_law_314 (by decide +kernel) ?_
  refine x_iaddN C dL_law_315 ?_
  refine x_sldN (k := 6 * t + 3) C hS hbl hb0 (by omega) (by omega) dL_law_316 ?_
  refine x_aload_n C dL_law_317 3 rfl rfl ?_
  refine x_iload_n C dL_law_318 0 rfl rfl ?_
  refine x_iconst (v := nI 4) C dL_law_319 (by decide +kernel) ?_
  refine x_iaddN C dL_law_320 ?_
  refine x_sldN (k := 6 * t + 4) C hS hbl hb0 (by omega) (by omega) dL_law_321 ?_
  refine x_aload_n C dL_law_322 3 rfl rfl ?_
  refine x_iload_n C dL_law_323 0 rfl rfl ?_
  refine x_iconst (v := nI 5) C dL_law_324 (by decide +kernel) ?_
  refine x_iaddN C dL_law_325 ?_
  refine x_sldN (k := 6 * t + 5) C hS hbl hb0 (by omega) (by omega) dL_law_326 ?_
  refine x_callV C (xw_side gX gM hP (xs (6 * t + 1)) (xs (6 * t + 2)) (xs (6 * t + 3)) (xs (6 * t + 4)) (xs (6 * t + 5))) mv_X10_side ml_L_36 (gX.1.1.1 100 _ rfl).1 rfl rfl rfl (Nat.le_of_ble_eq_true rfl) (hrm (rm := { frames := 0, cells := 0, slots := 0, locals := 0 }) hZ ⟨Nat.le_of_ble_eq_true rfl, Nat.le_of_ble_eq_true rfl⟩) (hcs hZ ⟨by show cl + 12 ≤ 600000; omega, by show sl + 343 ≤ 7302250; omega⟩) dL_law_327 (fun v G' hp => ?_)
  obtain ⟨T1, I1, L1, R1, B1⟩ := G'
  obtain ⟨rfl, X1, M1, a1, a2⟩ := hp
  have X1 : XR (z0 z) (zS z) ((sSid W (xs (6 * t + 1)) (xs (6 * t + 2)) (xs (6 * t + 3)) (xs (6 * t + 4)) (xs (6 * t + 5))).1) T1 I1 R1 B1 := X1
  have M1 : MR (z0 z) W T1 I1 R1 B1 := M1
  have a1 : B1 100 = A 100 := a1
  have a2 : B1 63 = A 63 := a2
  rw [← a1, ← a2]
  show hX z (cl + 12) (sl + 343) (T1, I1, L1, R1, B1) [(3, .int (nI (6 * t))), (2, .ref (B1 63)), (1, .ref (B1 100)), (0, .ref b)] 330 [.int (sSid W (xs (6 * t + 1)) (xs (6 * t + 2)) (xs (6 * t + 3)) (xs (6 * t + 4)) (xs (6 * t + 5))).2]
  refine x_pop C dL_law_330 rfl ?_
  refine x_aload_n C dL_law_331 1 rfl rfl ?_
  refine x_aload_n C dL_law_332 3 rfl rfl ?_
  refine x_iload_n C dL_law_333 0 rfl rfl ?_
  refine x_iconst (v := nI 1) C dL_law_334 (by decide +kernel) ?_
  refine x_iaddN C dL_law_335 ?_
  refine x_sldN (k := 6 * t + 1) C hS hbl hb0 (by omega) (by omega) dL_law_336 ?_
  refine x_aload_n C dL_law_337 3 rfl rfl ?_
  refine x_iload_n C dL_law_338 0 rfl rfl ?_
  refine x_iconst (v := nI 2) C dL_law_339 (by decide +kernel) ?_
  refine x_iaddN C dL_law_340 ?_
  refine x_sldN (k := 6 * t + 2) C hS hbl hb0 (by omega) (by omega) dL_law_341 ?_
  refine x_aload_n C dL_law_342 3 rfl rfl ?_
  refine x_iload_n C dL_law_343 0 rfl rfl ?_
  refine x_iconst (v := nI 3) C dL_law_344 (by decide +kernel) ?_
  refine x_iaddN C dL_law_345 ?_
  refine x_sldN (k := 6 * t + 3) C hS hbl hb0 (by omega) (by omega) dL_law_346 ?_
  refine x_aload_n C dL_law_347 3 rfl rfl ?_
  refine x_iload_n C dL_law_348 0 rfl rfl ?_
  refine x_iconst (v := nI 4) C dL_law_349 (by decide +kernel) ?_
  refine x_iaddN C dL_law_350 ?_
  refine x_sldN (k := 6 * t + 4) C hS hbl hb0 (by omega) (by omega) dL_law_351 ?_
  refine x_aload_n C dL_law_352 3 rfl rfl ?_
  refine x_iload_n C dL_law_353 0 rfl rfl ?_
  refine x_iconst (v := nI 5) C dL_law_354 (by decide +kernel) ?_
  refine x_iaddN C dL_law_355 ?_
  refine x_sldN (k := 6 * t + 5) C hS hbl hb0 (by omega) (by omega) dL_law_356 ?_
  refine x_callV C (mw_side X1 M1 hP (xs (6 * t + 1)) (xs (6 * t + 2)) (xs (6 * t + 3)) (xs (6 * t + 4)) (xs (6 * t + 5))) mv_X11_side ml_L_40 M1.1.1.1 rfl rfl rfl (Nat.le_of_ble_eq_true rfl) (hrm (rm := { frames := 0, cells := 0, slots := 0, locals := 0 }) hZ ⟨Nat.le_of_ble_eq_true rfl, Nat.le_of_ble_eq_true rfl⟩) (hcs hZ ⟨by show cl + 12 + 0 ≤ 600000; omega, by show sl + 343 + 0 ≤ 7302250; omega⟩) dL_law_357 (fun v G' hp => ?_)
  obtain ⟨T2, I2, L2, R2, B2⟩ := G'
  obtain ⟨rfl, X2, M2, b1, b2⟩ := hp
  have X2 : XR (z0 z) (zS z) ((sSid W (xs (6 * t + 1)) (xs (6 * t + 2)) (xs (6 * t + 3)) (xs (6 * t + 4)) (xs (6 * t + 5))).1) T2 I2 R2 B2 := X2
  have M2 : MR (z0 z) ((sSid W (xs (6 * t + 1)) (xs (6 * t + 2)) (xs (6 * t + 3)) (xs (6 * t + 4)) (xs (6 * t + 5))).1) T2 I2 R2 B2 := M2
  have b1 : B2 100 = B1 100 := b1
  have b2 : B2 63 = B1 63 := b2
  rw [← b1, ← b2]
  show hX z (cl + 12 + 0) (sl + 343 + 0) (T2, I2, L2, R2, B2) [(3, .int (nI (6 * t))), (2, .ref (B2 63)), (1, .ref (B2 100)), (0, .ref b)] 360 [.int (sSid W (xs (6 * t + 1)) (xs (6 * t + 2)) (xs (6 * t + 3)) (xs (6 * t + 4)) (xs (6 * t + 5))).2]
  refine x_pop C dL_law_360 rfl ?_
  refine x_goto (tgt := 764) C dL_law_361 (by decide) ?_
  exact J _ _ _ _ _ _ _ _ (by omega) (by omega) X2 M2 (pi_Sid hP (xs (6 * t + 1)) (xs (6 * t + 2)) (xs (6 * t + 3)) (xs (6 * t + 4)) (xs (6 * t + 5)))
set_option maxHeartbeats 4000000 in
set_option maxRecDepth 100000 in
theorem arm_6 {z : hZ} (C : hC z RL code) (hZ : zR z = room_1) {b cl sl N t : Nat} (hcl : cl ≤ 200 + 12 * t) (hsl : sl ≤ 6000 + 343 * t) (hN : N ≤ 3072) (ht : 6 * t + 6 ≤ N) {xs : Nat → Int32} (hS : va_X b N xs (zs z) (zs z).heap) (hbl : b < (zs z).heap.size) (hb0 : b < z0 z) {W : wW} {T : Nat → Option hKd} {I : Nat → Nat → Int32} {L : Nat → Nat → Int64} {R : Nat → Nat → Option Nat} {A : Nat → Nat} (gX : XR (z0 z) (zS z) W T I R A) (gM : MR (z0 z) W T I R A) (hP : PI W) (J : lwJ z b t) : hX z cl sl (T, I, L, R, A) [(3, .int (nI (6 * t))), (2, .ref (A 63)), (1, .ref (A 100)), (0, .ref b)] 364 [] := by
  refine x_aload_n C dL_law_364 2 rfl rfl ?_
  refine x_aload_n C dL_law_365 3 rfl rfl ?_
  refine x_iload_n C dL_law_366 0 rfl rfl ?_
  refine x_iconst (v := nI 1) C dL_law_367 (by decide +kernel) ?_
  refine x_iaddN C dL_law_368 ?_
  refine x_sldN (k := 6 * t + 1) C hS hbl hb0 (by omega) (by omega) dL_law_369 ?_
  refine x_callV C (xw_again gX gM hP (xs (6 * t + 1))) mv_X10_again ml_L_41 (gX.1.1.1 100 _ rfl).1 rfl rfl rfl (Nat.le_of_ble_eq_true rfl) (hrm (rm := { frames := 0, cells := 0, slots := 0, locals := 0 }) hZ ⟨Nat.le_of_ble_eq_true rfl, Nat.le_of_ble_eq_true rfl⟩) (hcs hZ ⟨by show cl + 0 ≤ 600000; omega, by show sl + 0 ≤ 7302250; omega⟩) dL_law_370 (fun v G' hp => ?_)
  obtain ⟨T1, I1, L1, R1, B1⟩ := G'
  obtain ⟨rfl, X1, M1, a1, a2⟩ := hp
  have X1 : XR (z0 z) (zS z) ((sAgn W (xs (6 * t + 1))).1) T1 I1 R1 B1 := X1
  have M1 : MR (z0 z) W T1 I1 R1 B1 := M1
  have a1 : B1 100 = A 100 := a1
  have a2 : B1 63 = A 63 := a2
  rw [← a1, ← a2]
  show hX z (cl + 0) (sl + 0) (T1, I1, L1, R1, B1) [(3, .int (nI (6 * t))), (2, .ref (B1 63)), (1, .ref (B1 100)), (0, .ref b)] 373 [.int (sAgn W (xs (6 * t + 1))).2]
  refine x_pop C dL_law_373 rfl ?_
  refine x_aload_n C dL_law_374 1 rfl rfl ?_
  refine x_aload_n C dL_law_375 3 rfl rfl ?_
  refine x_iload_n C dL_law_376 0 rfl rfl ?_
  refine x_iconst (v := nI 1) C dL_law_377 (by decide +kernel) ?_
  refine x_iaddN C dL_law_378 ?_
  refine x_sldN (k := 6 * t + 1) C hS hbl hb0 (by omega) (by omega) dL_law_379 ?_
  refine x_callV C (mw_again X1 M1 hP (xs (6 * t + 1))) mv_X11_again ml_L_44 M1.1.1.1 rfl rfl rfl (Nat.le_of_ble_eq_true rfl) (hrm (rm := { frames := 0, cells := 0, slots := 0, locals := 0 }) hZ ⟨Nat.le_of_ble_eq_true rfl, Nat.le_of_ble_eq_true rfl⟩) (hcs hZ ⟨by show cl + 0 + 0 ≤ 600000; omega, by show sl + 0 + 0 ≤ 7302250; omega⟩) dL_law_380 (fun v G' hp => ?_)
  obtain ⟨T2, I2, L2, R2, B2⟩ := G'
  obtain ⟨rfl, X2, M2, b1, b2⟩ := hp
  have X2 : XR (z0 z) (zS z) ((sAgn W (xs (6 * t + 1))).1) T2 I2 R2 B2 := X2
  have M2 : MR (z0 z) ((sAgn W (xs (6 * t + 1))).1) T2 I2 R2 B2 := M2
  have b1 : B2 100 = B1 100 := b1
  have b2 : B2 63 = B1 63 := b2
  rw [← b1, ← b2]
  show hX z (cl + 0 + 0) (sl + 0 + 0) (T2, I2, L2, R2, B2) [(3, .int (nI (6 * t))), (2, .ref (B2 63)), (1, .ref (B2 100)), (0, .ref b)] 383 [.int (sAgn W (xs (6 * t + 1))).2]
  refine x_pop C dL_law_383 rfl ?_
  refine x_goto (tgt := 764) C dL_law_384 (by decide) ?_
  exact J _ _ _ _ _ _ _ _ (by omega) (by omega) X2 M2 (pi_Agn hP (xs (6 * t + 1)))
set_option maxHeartbeats 4000000 in
set_option maxRecDepth 100000 in
theorem arm_7 {z : hZ} (C : hC z RL code) (hZ : zR z = room_1) {b cl sl N t : Nat} (hcl : cl ≤ 200 + 12 * t) (hsl : sl ≤ 6000 + 343 * t) (hN : N ≤ 3072) (ht : 6 * t + 6 ≤ N) {xs : Nat → Int32} (hS : va_X b N xs (zs z) (zs z).heap) (hbl : b < (zs z).heap.size) (hb0 : b < z0 z) {W : wW} {T : Nat → Option hKd} {I : Nat → Nat → Int32} {L : Nat → Nat → Int64} {R : Nat → Nat → Option Nat} {A : Nat → Nat} (gX : XR (z0 z) (zS z) W T I R A) (gM : MR (z0 z) W T I R A) (hP : PI W) (J : lwJ z b t) : hX z cl sl (T, I, L, R, A) [(3, .int (nI (6 * t))), (2, .ref (A 63)), (1, .ref (A 100)), (0, .ref b)] 387 [] := by
  refine x_aload_n C dL_law_387 2 rfl rfl ?_
  refine x_aload_n C dL_law_388 3 rfl rfl ?_
  refine x_iload_n C dL_law_389 0 rfl rfl ?_
  refine x_iconst (v := nI 1) C dL_law_390 (by decide +kernel) ?_
  refine x_iaddN C dL_law_391 ?_
  refine x_sldN (k := 6 * t + 1) C hS hbl hb0 (by omega) (by omega) dL_law_392 ?_
  refine x_i2l C dL_law_393 ?_
  refine x_bipush (v := nI 32) C dL_law_394 (by decide +kernel) ?_
  refine x_lshl C dL_law_396 ?_
  refine x_aload_n C dL_law_397 3 rfl rfl ?_
  refine x_iload_n C dL_law_398 0 rfl rfl ?_
  refine x_iconst (v := nI 2) C dL_law_399 (by decide +kernel) ?_
  refine x_iaddN C dL_law_400 ?_
  refine x_sldN (k := 6 * t + 2) C hS hbl hb0 (by omega) (by omega) dL_law_401 ?_
  refine x_i2l C dL_law_402 ?_
  refine x_ldc2 C dL_law_403 kc_L_45 ?_
  refine x_land C dL_law_406 ?_
  refine x_lor C dL_law_407 ?_
  refine x_aload_n C dL_law_408 3 rfl rfl ?_
  refine x_iload_n C dL_law_409 0 rfl rfl ?_
  refine x_iconst (v := nI 3) C dL_law_410 (by decide +kernel) ?_
  refine x_iaddN C dL_law_411 ?_
  refine x_sldN (k := 6 * t + 3) C hS hbl hb0 (by omega) (by omega) dL_law_412 ?_
  refine x_callV C (xw_feed gX gM hP (((lsl (Int32.toInt64 (xs (6 * t + 1))) (nI 32)) ||| ((Int32.toInt64 (xs (6 * t + 2))) &&& 4294967295))) (xs (6 * t + 3))) mv_X10_feed ml_L_47 (gX.1.1.1 100 _ rfl).1 rfl rfl rfl (Nat.le_of_ble_eq_true rfl) (hrm (rm := { frames := 0, cells := 0, slots := 0, locals := 0 }) hZ ⟨Nat.le_of_ble_eq_true rfl, Nat.le_of_ble_eq_true rfl⟩) (hcs hZ ⟨by show cl + 0 ≤ 600000; omega, by show sl + 0 ≤ 7302250; omega⟩) dL_law_413 (fun v G' hp => ?_)
  obtain ⟨T1, I1, L1, R1, B1⟩ := G'
  obtain ⟨rfl, X1, M1, a1, a2⟩ := hp
  have X1 : XR (z0 z) (zS z) ((sFed W (((lsl (Int32.toInt64 (xs (6 * t + 1))) (nI 32)) ||| ((Int32.toInt64 (xs (6 * t + 2))) &&& 4294967295))) (xs (6 * t + 3))).1) T1 I1 R1 B1 := X1
  have M1 : MR (z0 z) W T1 I1 R1 B1 := M1
  have a1 : B1 100 = A 100 := a1
  have a2 : B1 63 = A 63 := a2
  rw [← a1, ← a2]
  show hX z (cl + 0) (sl + 0) (T1, I1, L1, R1, B1) [(3, .int (nI (6 * t))), (2, .ref (B1 63)), (1, .ref (B1 100)), (0, .ref b)] 416 [.int (sFed W (((lsl (Int32.toInt64 (xs (6 * t + 1))) (nI 32)) ||| ((Int32.toInt64 (xs (6 * t + 2))) &&& 4294967295))) (xs (6 * t + 3))).2]
  refine x_pop C dL_law_416 rfl ?_
  refine x_aload_n C dL_law_417 1 rfl rfl ?_
  refine x_aload_n C dL_law_418 3 rfl rfl ?_
  refine x_iload_n C dL_law_419 0 rfl rfl ?_
  refine x_iconst (v := nI 1) C dL_law_420 (by decide +kernel) ?_
  refine x_iaddN C dL_law_421 ?_
  refine x_sldN (k := 6 * t + 1) C hS hbl hb0 (by omega) (by omega) dL_law_422 ?_
  refine x_i2l C dL_law_423 ?_
  refine x_bipush (v := nI 32) C dL_law_424 (by decide +kernel) ?_
  refine x_lshl C dL_law_426 ?_
  refine x_aload_n C dL_law_427 3 rfl rfl ?_
  refine x_iload_n C dL_law_428 0 rfl rfl ?_
  refine x_iconst (v := nI 2) C dL_law_429 (by decide +kernel) ?_
  refine x_iaddN C dL_law_430 ?_
  refine x_sldN (k := 6 * t + 2) C hS hbl hb0 (by omega) (by omega) dL_law_431 ?_
  refine x_i2l C dL_law_432 ?_
  refine x_ldc2 C dL_law_433 kc_L_45 ?_
  refine x_land C dL_law_436 ?_
  refine x_lor C dL_law_437 ?_
  refine x_aload_n C dL_law_438 3 rfl rfl ?_
  refine x_iload_n C dL_law_439 0 rfl rfl ?_
  refine x_iconst (v := nI 3) C dL_law_440 (by decide +kernel) ?_
  refine x_iaddN C dL_law_441 ?_
  refine x_sldN (k := 6 * t + 3) C hS hbl hb0 (by omega) (by omega) dL_law_442 ?_
  refine x_callV C (mw_feed X1 M1 hP (((lsl (Int32.toInt64 (xs (6 * t + 1))) (nI 32)) ||| ((Int32.toInt64 (xs (6 * t + 2))) &&& 4294967295))) (xs (6 * t + 3))) mv_X11_feed ml_L_51 M1.1.1.1 rfl rfl rfl (Nat.le_of_ble_eq_true rfl) (hrm (rm := { frames := 0, cells := 0, slots := 0, locals := 0 }) hZ ⟨Nat.le_of_ble_eq_true rfl, Nat.le_of_ble_eq_true rfl⟩) (hcs hZ ⟨by show cl + 0 + 0 ≤ 600000; omega, by show sl + 0 + 0 ≤ 7302250; omega⟩) dL_law_443 (fun v G' hp => ?_)
  obtain ⟨T2, I2, L2, R2, B2⟩ := G'
  obtain ⟨rfl, X2, M2, b1, b2⟩ := hp
  have X2 : XR (z0 z) (zS z) ((sFed W (((lsl (Int32.toInt64 (xs (6 * t + 1))) (nI 32)) ||| ((Int32.toInt64 (xs (6 * t + 2))) &&& 4294967295))) (xs (6 * t + 3))).1) T2 I2 R2 B2 := X2
  have M2 : MR (z0 z) ((sFed W (((lsl (Int32.toInt64 (xs (6 * t + 1))) (nI 32)) ||| ((Int32.toInt64 (xs (6 * t + 2))) &&& 4294967295))) (xs (6 * t + 3))).1) T2 I2 R2 B2 := M2
  have b1 : B2 100 = B1 100 := b1
  have b2 : B2 63 = B1 63 := b2
  rw [← b1, ← b2]
  show hX z (cl + 0 + 0) (sl + 0 + 0) (T2, I2, L2, R2, B2) [(3, .int (nI (6 * t))), (2, .ref (B2 63)), (1, .ref (B2 100)), (0, .ref b)] 446 [.int (sFed W (((lsl (Int32.toInt64 (xs (6 * t + 1))) (nI 32)) ||| ((Int32.toInt64 (xs (6 * t + 2))) &&& 4294967295))) (xs (6 * t + 3))).2]
  refine x_pop C dL_law_446 rfl ?_
  refine x_goto (tgt := 764) C dL_law_447 (by decide) ?_
  exact J _ _ _ _ _ _ _ _ (by omega) (by omega) X2 M2 (pi_Fed hP (((lsl (Int32.toInt64 (xs (6 * t + 1))) (nI 32)) ||| ((Int32.toInt64 (xs (6 * t + 2))) &&& 4294967295))) (xs (6 * t + 3)))
set_option maxHeartbeats 4000000 in
set_option maxRecDepth 100000 in
theorem arm_8 {z : hZ} (C : hC z RL code) (hZ : zR z = room_1) {b cl sl N t : Nat} (hcl : cl ≤ 200 + 12 * t) (hsl : sl ≤ 6000 + 343 * t) (hN : N ≤ 3072) (ht : 6 * t + 6 ≤ N) {xs : Nat → Int32} (hS : va_X b N xs (zs z) (zs z).heap) (hbl : b < (zs z).heap.size) (hb0 : b < z0 z) {W : wW} {T : Nat → Option hKd} {I : Nat → Nat → Int32} {L : Nat → Nat → Int64} {R : Nat → Nat → Option Nat} {A : Nat → Nat} (gX : XR (z0 z) (zS z) W T I R A) (gM : MR (z0 z) W T I R A) (hP : PI W) (J : lwJ z b t) : hX z cl sl (T, I, L, R, A) [(3, .int (nI (6 * t))), (2, .ref (A 63)), (1, .ref (A 100)), (0, .ref b)] 450 [] := by
  refine x_aload_n C dL_law_450 2 rfl rfl ?_
  refine x_aload_n C dL_law_451 3 rfl rfl ?_
  refine x_iload_n C dL_law_452 0 rfl rfl ?_
  refine x_iconst (v := nI 1) C dL_law_453 (by decide +kernel) ?_
  refine x_iaddN C dL_law_454 ?_
  refine x_sldN (k := 6 * t + 1) C hS hbl hb0 (by omega) (by omega) dL_law_455 ?_
  refine x_callV C (xw_write gX gM hP (xs (6 * t + 1))) mv_X10_write ml_L_52 (gX.1.1.1 100 _ rfl).1 rfl rfl rfl (Nat.le_of_ble_eq_true rfl) (hrm (rm := { frames := 0, cells := 0, slots := 0, locals := 0 }) hZ ⟨Nat.le_of_ble_eq_true rfl, Nat.le_of_ble_eq_true rfl⟩) (hcs hZ ⟨by show cl + 0 ≤ 600000; omega, by show sl + 0 ≤ 7302250; omega⟩) dL_law_456 (fun v G' hp => ?_)
  obtain ⟨T1, I1, L1, R1, B1⟩ := G'
  obtain ⟨rfl, X1, M1, a1, a2⟩ := hp
  have X1 : XR (z0 z) (zS z) ((sWri W (xs (6 * t + 1))).1) T1 I1 R1 B1 := X1
  have M1 : MR (z0 z) W T1 I1 R1 B1 := M1
  have a1 : B1 100 = A 100 := a1
  have a2 : B1 63 = A 63 := a2
  rw [← a1, ← a2]
  show hX z (cl + 0) (sl + 0) (T1, I1, L1, R1, B1) [(3, .int (nI (6 * t))), (2, .ref (B1 63)), (1, .ref (B1 100)), (0, .ref b)] 459 [.int (sWri W (xs (6 * t + 1))).2]
  refine x_pop C dL_law_459 rfl ?_
  refine x_aload_n C dL_law_460 1 rfl rfl ?_
  refine x_aload_n C dL_law_461 3 rfl rfl ?_
  refine x_iload_n C dL_law_462 0 rfl rfl ?_
  refine x_iconst (v := nI 1) C dL_law_463 (by decide +kernel) ?_
  refine x_iaddN C dL_law_464 ?_
  refine x_sldN (k := 6 * t + 1) C hS hbl hb0 (by omega) (by omega) dL_law_465 ?_
  refine x_callV C (mw_write X1 M1 hP (xs (6 * t + 1))) mv_X11_write ml_L_55 M1.1.1.1 rfl rfl rfl (Nat.le_of_ble_eq_true rfl) (hrm (rm := { frames := 0, cells := 0, slots := 0, locals := 0 }) hZ ⟨Nat.le_of_ble_eq_true rfl, Nat.le_of_ble_eq_true rfl⟩) (hcs hZ ⟨by show cl + 0 + 0 ≤ 600000; omega, by show sl + 0 + 0 ≤ 7302250; omega⟩) dL_law_466 (fun v G' hp => ?_)
  obtain ⟨T2, I2, L2, R2, B2⟩ := G'
  obtain ⟨rfl, X2, M2, b1, b2⟩ := hp
  have X2 : XR (z0 z) (zS z) ((sWri W (xs (6 * t + 1))).1) T2 I2 R2 B2 := X2
  have M2 : MR (z0 z) ((sWri W (xs (6 * t + 1))).1) T2 I2 R2 B2 := M2
  have b1 : B2 100 = B1 100 := b1
  have b2 : B2 63 = B1 63 := b2
  rw [← b1, ← b2]
  show hX z (cl + 0 + 0) (sl + 0 + 0) (T2, I2, L2, R2, B2) [(3, .int (nI (6 * t))), (2, .ref (B2 63)), (1, .ref (B2 100)), (0, .ref b)] 469 [.int (sWri W (xs (6 * t + 1))).2]
  refine x_pop C dL_law_469 rfl ?_
  refine x_goto (tgt := 764) C dL_law_470 (by decide) ?_
  exact J _ _ _ _ _ _ _ _ (by omega) (by omega) X2 M2 (pi_Wri hP (xs (6 * t + 1)))
set_option maxHeartbeats 4000000 in
set_option maxRecDepth 100000 in
theorem arm_9 {z : hZ} (C : hC z RL code) (hZ : zR z = room_1) {b cl sl N t : Nat} (hcl : cl ≤ 200 + 12 * t) (hsl : sl ≤ 6000 + 343 * t) (hN : N ≤ 3072) (ht : 6 * t + 6 ≤ N) {xs : Nat → Int32} (hS : va_X b N xs (zs z) (zs z).heap) (hbl : b < (zs z).heap.size) (hb0 : b < z0 z) {W : wW} {T : Nat → Option hKd} {I : Nat → Nat → Int32} {L : Nat → Nat → Int64} {R : Nat → Nat → Option Nat} {A : Nat → Nat} (gX : XR (z0 z) (zS z) W T I R A) (gM : MR (z0 z) W T I R A) (hP : PI W) (J : lwJ z b t) : hX z cl sl (T, I, L, R, A) [(3, .int (nI (6 * t))), (2, .ref (A 63)), (1, .ref (A 100)), (0, .ref b)] 473 [] := by
  refine x_aload_n C dL_law_473 2 rfl rfl ?_
  refine x_aload_n C dL_law_474 3 rfl rfl ?_
  refine x_iload_n C dL_law_475 0 rfl rfl ?_
  refine x_iconst (v := nI 1) C dL_law_476 (by decide +kernel) ?_
  refine x_iaddN C dL_law_477 ?_
  refine x_sldN (k := 6 * t + 1) C hS hbl hb0 (by omega) (by omega) dL_law_478 ?_
  refine x_callV C (xw_read gX gM hP (xs (6 * t + 1))) mv_X10_read ml_L_56 (gX.1.1.1 100 _ rfl).1 rfl rfl rfl (Nat.le_of_ble_eq_true rfl) (hrm (rm := { frames := 0, cells := 0, slots := 0, locals := 0 }) hZ ⟨Nat.le_of_ble_eq_true rfl, Nat.le_of_ble_eq_true rfl⟩) (hcs hZ ⟨by show cl + 0 ≤ 600000; omega, by show sl + 0 ≤ 7302250; omega⟩) dL_law_479 (fun v G' hp => ?_)
  obtain ⟨T1, I1, L1, R1, B1⟩ := G'
  obtain ⟨v1, rfl, X1, M1, a1, a2⟩ := hp
  have X1 : XR (z0 z) (zS z) (sRea W (xs (6 * t + 1))) T1 I1 R1 B1 := X1
  have M1 : MR (z0 z) W T1 I1 R1 B1 := M1
  have a1 : B1 100 = A 100 := a1
  have a2 : B1 63 = A 63 := a2
  rw [← a1, ← a2]
  show hX z (cl + 0) (sl + 0) (T1, I1, L1, R1, B1) [(3, .int (nI (6 * t))), (2, .ref (B1 63)), (1, .ref (B1 100)), (0, .ref b)] 482 [.int v1]
  refine x_pop C dL_law_482 rfl ?_
  refine x_aload_n C dL_law_483 1 rfl rfl ?_
  refine x_aload_n C dL_law_484 3 rfl rfl ?_
  refine x_iload_n C dL_law_485 0 rfl rfl ?_
  refine x_iconst (v := nI 1) C dL_law_486 (by decide +kernel) ?_
  refine x_iaddN C dL_law_487 ?_
  refine x_sldN (k := 6 * t + 1) C hS hbl hb0 (by omega) (by omega) dL_law_488 ?_
  refine x_callV C (mw_read X1 M1 hP (xs (6 * t + 1))) mv_X11_read ml_L_59 M1.1.1.1 rfl rfl rfl (Nat.le_of_ble_eq_true rfl) (hrm (rm := { frames := 0, cells := 0, slots := 0, locals := 0 }) hZ ⟨Nat.le_of_ble_eq_true rfl, Nat.le_of_ble_eq_true rfl⟩) (hcs hZ ⟨by show cl + 0 + 0 ≤ 600000; omega, by show sl + 0 + 0 ≤ 7302250; omega⟩) dL_law_489 (fun v G' hp => ?_)
  obtain ⟨T2, I2, L2, R2, B2⟩ := G'
  obtain ⟨v2, rfl, X2, M2, b1, b2⟩ := hp
  have X2 : XR (z0 z) (zS z) (sRea W (xs (6 * t + 1))) T2 I2 R2 B2 := X2
  have M2 : MR (z0 z) (sRea W (xs (6 * t + 1))) T2 I2 R2 B2 := M2
  have b1 : B2 100 = B1 100 := b1
  have b2 : B2 63 = B1 63 := b2
  rw [← b1, ← b2]
  show hX z (cl + 0 + 0) (sl + 0 + 0) (T2, I2, L2, R2, B2) [(3, .int (nI (6 * t))), (2, .ref (B2 63)), (1, .ref (B2 100)), (0, .ref b)] 492 [.int v2]
  refine x_pop C dL_law_492 rfl ?_
  refine x_goto (tgt := 764) C dL_law_493 (by decide) ?_
  exact J _ _ _ _ _ _ _ _ (by omega) (by omega) X2 M2 (pi_Rea hP (xs (6 * t + 1)))
set_option maxHeartbeats 4000000 in
set_option maxRecDepth 100000 in
theorem arm_10 {z : hZ} (C : hC z RL code) (hZ : zR z = room_1) {b cl sl N t : Nat} (hcl : cl ≤ 200 + 12 * t) (hsl : sl ≤ 6000 + 343 * t) (hN : N ≤ 3072) (ht : 6 * t + 6 ≤ N) {xs : Nat → Int32} (hS : va_X b N xs (zs z) (zs z).heap) (hbl : b < (zs z).heap.size) (hb0 : b < z0 z) {W : wW} {T : Nat → Option hKd} {I : Nat → Nat → Int32} {L : Nat → Nat → Int64} {R : Nat → Nat → Option Nat} {A : Nat → Nat} (gX : XR (z0 z) (zS z) W T I R A) (gM : MR (z0 z) W T I R A) (hP : PI W) (J : lwJ z b t) : hX z cl sl (T, I, L, R, A) [(3, .int (nI (6 * t))), (2, .ref (A 63)), (1, .ref (A 100)), (0, .ref b)] 496 [] := by
  refine x_aload_n C dL_law_496 2 rfl rfl ?_
  refine x_aload_n C dL_law_497 3 rfl rfl ?_
  refine x_iload_n C dL_law_498 0 rfl rfl ?_
  refine x_iconst (v := nI 1) C dL_law_499 (by decide +kernel) ?_
  refine x_iaddN C dL_law_500 ?_
  refine x_sldN (k := 6 * t + 1) C hS hbl hb0 (by omega) (by omega) dL_law_501 ?_
  refine x_aload_n C dL_law_502 3 rfl rfl ?_
  refine x_iload_n C dL_law_503 0 rfl rfl ?_
  refine x_iconst (v := nI 2) C dL_law_504 (by decide +kernel) ?_
  refine x_iaddN C dL_law_505 ?_
  refine x_sldN (k := 6 * t + 2) C hS hbl hb0 (by omega) (by omega) dL_law_506 ?_
  refine x_callV C (xw_alter gX gM hP (xs (6 * t + 1)) (xs (6 * t + 2))) mv_X10_alter ml_L_60 (gX.1.1.1 100 _ rfl).1 rfl rfl rfl (Nat.le_of_ble_eq_true rfl) (hrm (rm := { frames := 0, cells := 0, slots := 0, locals := 0 }) hZ ⟨Nat.le_of_ble_eq_true rfl, Nat.le_of_ble_eq_true rfl⟩) (hcs hZ ⟨by show cl + 0 ≤ 600000; omega, by show sl + 0 ≤ 7302250; omega⟩) dL_law_507 (fun v G' hp => ?_)
  obtain ⟨T1, I1, L1, R1, B1⟩ := G'
  obtain ⟨rfl, X1, M1, a1, a2⟩ := hp
  have X1 : XR (z0 z) (zS z) ((sAlt W (xs (6 * t + 1)) (xs (6 * t + 2))).1) T1 I1 R1 B1 := X1
  have M1 : MR (z0 z) W T1 I1 R1 B1 := M1
  have a1 : B1 100 = A 100 := a1
  have a2 : B1 63 = A 63 := a2
  rw [← a1, ← a2]
  show hX z (cl + 0) (sl + 0) (T1, I1, L1, R1, B1) [(3, .int (nI (6 * t))), (2, .ref (B1 63)), (1, .ref (B1 100)), (0, .ref b)] 510 [.int (sAlt W (xs (6 * t + 1)) (xs (6 * t + 2))).2]
  refine x_pop C dL_law_510 rfl ?_
  refine x_aload_n C dL_law_511 1 rfl rfl ?_
  refine x_aload_n C dL_law_512 3 rfl rfl ?_
  refine x_iload_n C dL_law_513 0 rfl rfl ?_
  refine x_iconst (v := nI 1) C dL_law_514 (by decide +kernel) ?_
  refine x_iaddN C dL_law_515 ?_
  refine x_sldN (k := 6 * t + 1) C hS hbl hb0 (by omega) (by omega) dL_law_516 ?_
  refine x_aload_n C dL_law_517 3 rfl rfl ?_
  refine x_iload_n C dL_law_518 0 rfl rfl ?_
  refine x_iconst (v := nI 2) C dL_law_519 (by decide +kernel) ?_
  refine x_iaddN C dL_law_520 ?_
  refine x_sldN (k := 6 * t + 2) C hS hbl hb0 (by omega) (by omega) dL_law_521 ?_
  refine x_callV C (mw_alter X1 M1 hP (xs (6 * t + 1)) (xs (6 * t + 2))) mv_X11_alter ml_L_63 M1.1.1.1 rfl rfl rfl (Nat.le_of_ble_eq_true rfl) (hrm (rm := { frames := 0, cells := 0, slots := 0, locals := 0 }) hZ ⟨Nat.le_of_ble_eq_true rfl, Nat.le_of_ble_eq_true rfl⟩) (hcs hZ ⟨by show cl + 0 + 0 ≤ 600000; omega, by show sl + 0 + 0 ≤ 7302250; omega⟩) dL_law_522 (fun v G' hp => ?_)
  obtain ⟨T2, I2, L2, R2, B2⟩ := G'
  obtain ⟨rfl, X2, M2, b1, b2⟩ := hp
  have X2 : XR (z0 z) (zS z) ((sAlt W (xs (6 * t + 1)) (xs (6 * t + 2))).1) T2 I2 R2 B2 := X2
  have M2 : MR (z0 z) ((sAlt W (xs (6 * t + 1)) (xs (6 * t + 2))).1) T2 I2 R2 B2 := M2
  have b1 : B2 100 = B1 100 := b1
  have b2 : B2 63 = B1 63 := b2
  rw [← b1, ← b2]
  show hX z (cl + 0 + 0) (sl + 0 + 0) (T2, I2, L2, R2, B2) [(3, .int (nI (6 * t))), (2, .ref (B2 63)), (1, .ref (B2 100)), (0, .ref b)] 525 [.int (sAlt W (xs (6 * t + 1)) (xs (6 * t + 2))).2]
  refine x_pop C dL_law_525 rfl ?_
  refine x_goto (tgt := 764) C dL_law_526 (by decide) ?_
  exact J _ _ _ _ _ _ _ _ (by omega) (by omega) X2 M2 (pi_Alt hP (xs (6 * t + 1)) (xs (6 * t + 2)))
set_option maxHeartbeats 4000000 in
set_option maxRecDepth 100000 in
theorem arm_11 {z : hZ} (C : hC z RL code) (hZ : zR z = room_1) {b cl sl N t : Nat} (hcl : cl ≤ 200 + 12 * t) (hsl : sl ≤ 6000 + 343 * t) (hN : N ≤ 3072) (ht : 6 * t + 6 ≤ N) {xs : Nat → Int32} (hS : va_X b N xs (zs z) (zs z).heap) (hbl : b < (zs z).heap.size) (hb0 : b < z0 z) {W : wW} {T : Nat → Option hKd} {I : Nat → Nat → Int32} {L : Nat → Nat → Int64} {R : Nat → Nat → Option Nat} {A : Nat → Nat} (gX : XR (z0 z) (zS z) W T I R A) (gM : MR (z0 z) W T I R A) (hP : PI W) (J : lwJ z b t) : hX z cl sl (T, I, L, R, A) [(3, .int (nI (6 * t))), (2, .ref (A 63)), (1, .ref (A 100)), (0, .ref b)] 529 [] := by
  refine x_aload_n C dL_law_529 2 rfl rfl ?_
  refine x_aload_n C dL_law_530 3 rfl rfl ?_
  refine x_iload_n C dL_law_531 0 rfl rfl ?_
  refine x_iconst (v := nI 1) C dL_law_532 (by decide +kernel) ?_
  refine x_iaddN C dL_law_533 ?_
  refine x_sldN (k := 6 * t + 1) C hS hbl hb0 (by omega) (by omega) dL_law_534 ?_
  refine x_callV C (xw_cut gX gM hP (xs (6 * t + 1))) mv_X10_cut ml_L_64 (gX.1.1.1 100 _ rfl).1 rfl rfl rfl (Nat.le_of_ble_eq_true rfl) (hrm (rm := { frames := 0, cells := 0, slots := 0, locals := 0 }) hZ ⟨Nat.le_of_ble_eq_true rfl, Nat.le_of_ble_eq_true rfl⟩) (hcs hZ ⟨by show cl + 0 ≤ 600000; omega, by show sl + 0 ≤ 7302250; omega⟩) dL_law_535 (fun v G' hp => ?_)
  obtain ⟨T1, I1, L1, R1, B1⟩ := G'
  obtain ⟨rfl, X1, M1, a1, a2⟩ := hp
  have X1 : XR (z0 z) (zS z) ((sCut W (xs (6 * t + 1))).1) T1 I1 R1 B1 := X1
  have M1 : MR (z0 z) W T1 I1 R1 B1 := M1
  have a1 : B1 100 = A 100 := a1
  have a2 : B1 63 = A 63 := a2
  rw [← a1, ← a2]
  show hX z (cl + 0) (sl + 0) (T1, I1, L1, R1, B1) [(3, .int (nI (6 * t))), (2, .ref (B1 63)), (1, .ref (B1 100)), (0, .ref b)] 538 [.int (sCut W (xs (6 * t + 1))).2]
  refine x_pop C dL_law_538 rfl ?_
  refine x_aload_n C dL_law_539 1 rfl rfl ?_
  refine x_aload_n C dL_law_540 3 rfl rfl ?_
  refine x_iload_n C dL_law_541 0 rfl rfl ?_
  refine x_iconst (v := nI 1) C dL_law_542 (by decide +kernel) ?_
  refine x_iaddN C dL_law_543 ?_
  refine x_sldN (k := 6 * t + 1) C hS hbl hb0 (by omega) (by omega) dL_law_544 ?_
  refine x_callV C (mw_cut X1 M1 hP (xs (6 * t + 1))) mv_X11_cut ml_L_67 M1.1.1.1 rfl rfl rfl (Nat.le_of_ble_eq_true rfl) (hrm (rm := { frames := 0, cells := 0, slots := 0, locals := 0 }) hZ ⟨Nat.le_of_ble_eq_true rfl, Nat.le_of_ble_eq_true rfl⟩) (hcs hZ ⟨by show cl + 0 + 0 ≤ 600000; omega, by show sl + 0 + 0 ≤ 7302250; omega⟩) dL_law_545 (fun v G' hp => ?_)
  obtain ⟨T2, I2, L2, R2, B2⟩ := G'
  obtain ⟨rfl, X2, M2, b1, b2⟩ := hp
  have X2 : XR (z0 z) (zS z) ((sCut W (xs (6 * t + 1))).1) T2 I2 R2 B2 := X2
  have M2 : MR (z0 z) ((sCut W (xs (6 * t + 1))).1) T2 I2 R2 B2 := M2
  have b1 : B2 100 = B1 100 := b1
  have b2 : B2 63 = B1 63 := b2
  rw [← b1, ← b2]
  show hX z (cl + 0 + 0) (sl + 0 + 0) (T2, I2, L2, R2, B2) [(3, .int (nI (6 * t))), (2, .ref (B2 63)), (1, .ref (B2 100)), (0, .ref b)] 548 [.int (sCut W (xs (6 * t + 1))).2]
  refine x_pop C dL_law_548 rfl ?_
  refine x_goto (tgt := 764) C dL_law_549 (by decide) ?_
  exact J _ _ _ _ _ _ _ _ (by omega) (by omega) X2 M2 (pi_Cut hP (xs (6 * t + 1)))
set_option maxHeartbeats 4000000 in
set_option maxRecDepth 100000 in
theorem arm_12 {z : hZ} (C : hC z RL code) (hZ : zR z = room_1) {b cl sl N t : Nat} (hcl : cl ≤ 200 + 12 * t) (hsl : sl ≤ 6000 + 343 * t) (hN : N ≤ 3072) (ht : 6 * t + 6 ≤ N) {xs : Nat → Int32} (hS : va_X b N xs (zs z) (zs z).heap) (hbl : b < (zs z).heap.size) (hb0 : b < z0 z) {W : wW} {T : Nat → Option hKd} {I : Nat → Nat → Int32} {L : Nat → Nat → Int64} {R : Nat → Nat → Option Nat} {A : Nat → Nat} (gX : XR (z0 z) (zS z) W T I R A) (gM : MR (z0 z) W T I R A) (hP : PI W) (J : lwJ z b t) : hX z cl sl (T, I, L, R, A) [(3, .int (nI (6 * t))), (2, .ref (A 63)), (1, .ref (A 100)), (0, .ref b)] 552 [] := by
  refine x_aload_n C dL_law_552 2 rfl rfl ?_
  refine x_aload_n C dL_law_553 3 rfl rfl ?_
  refine x_iload_n C dL_law_554 0 rfl rfl ?_
  refine x_iconst (v := nI 1) C dL_law_555 (by decide +kernel) ?_
  refine x_iaddN C dL_law_556 ?_
  refine x_sldN (k := 6 * t + 1) C hS hbl hb0 (by omega) (by omega) dL_law_557 ?_
  refine x_aload_n C dL_law_558 3 rfl rfl ?_
  refine x_iload_n C dL_law_559 0 rfl rfl ?_
  refine x_iconst (v := nI 2) C dL_law_560 (by decide +kernel) ?_
  refine x_iaddN C dL_law_561 ?_
  refine x_sldN (k := 6 * t + 2) C hS hbl hb0 (by omega) (by omega) dL_law_562 ?_
  refine x_callV C (xw_byteOf gX gM hP (xs (6 * t + 1)) (xs (6 * t + 2))) mv_X10_byteOf ml_L_68 (gX.1.1.1 100 _ rfl).1 rfl rfl rfl (Nat.le_of_ble_eq_true rfl) (hrm (rm := { frames := 0, cells := 0, slots := 0, locals := 0 }) hZ ⟨Nat.le_of_ble_eq_true rfl, Nat.le_of_ble_eq_true rfl⟩) (hcs hZ ⟨by show cl + 0 ≤ 600000; omega, by show sl + 0 ≤ 7302250; omega⟩) dL_law_563 (fun v G' hp => ?_)
  obtain ⟨T1, I1, L1, R1, B1⟩ := G'
  obtain ⟨rfl, X1, M1, a1, a2⟩ := hp
  have X1 : XR (z0 z) (zS z) ((sByt W (xs (6 * t + 1)) (xs (6 * t + 2))).1) T1 I1 R1 B1 := X1
  have M1 : MR (z0 z) W T1 I1 R1 B1 := M1
  have a1 : B1 100 = A 100 := a1
  have a2 : B1 63 = A 63 := a2
  rw [← a1, ← a2]
  show hX z (cl + 0) (sl + 0) (T1, I1, L1, R1, B1) [(3, .int (nI (6 * t))), (2, .ref (B1 63)), (1, .ref (B1 100)), (0, .ref b)] 566 [.int (sByt W (xs (6 * t + 1)) (xs (6 * t + 2))).2]
  refine x_pop C dL_law_566 rfl ?_
  refine x_aload_n C dL_law_567 1 rfl rfl ?_
  refine x_aload_n C dL_law_568 3 rfl rfl ?_
  refine x_iload_n C dL_law_569 0 rfl rfl ?_
  refine x_iconst (v := nI 1) C dL_law_570 (by decide +kernel) ?_
  refine x_iaddN C dL_law_571 ?_
  refine x_sldN (k := 6 * t + 1) C hS hbl hb0 (by omega) (by omega) dL_law_572 ?_
  refine x_aload_n C dL_law_573 3 rfl rfl ?_
  refine x_iload_n C dL_law_574 0 rfl rfl ?_
  refine x_iconst (v := nI 2) C dL_law_575 (by decide +kernel) ?_
  refine x_iaddN C dL_law_576 ?_
  refine x_sldN (k := 6 * t + 2) C hS hbl hb0 (by omega) (by omega) dL_law_577 ?_
  refine x_callV C (mw_byteOf X1 M1 hP (xs (6 * t + 1)) (xs (6 * t + 2))) mv_X11_byteOf ml_L_71 M1.1.1.1 rfl rfl rfl (Nat.le_of_ble_eq_true rfl) (hrm (rm := { frames := 0, cells := 0, slots := 0, locals := 0 }) hZ ⟨Nat.le_of_ble_eq_true rfl, Nat.le_of_ble_eq_true rfl⟩) (hcs hZ ⟨by show cl + 0 + 0 ≤ 600000; omega, by show sl + 0 + 0 ≤ 7302250; omega⟩) dL_law_578 (fun v G' hp => ?_)
  obtain ⟨T2, I2, L2, R2, B2⟩ := G'
  obtain ⟨rfl, X2, M2, b1, b2⟩ := hp
  have X2 : XR (z0 z) (zS z) ((sByt W (xs (6 * t + 1)) (xs (6 * t + 2))).1) T2 I2 R2 B2 := X2
  have M2 : MR (z0 z) ((sByt W (xs (6 * t + 1)) (xs (6 * t + 2))).1) T2 I2 R2 B2 := M2
  have b1 : B2 100 = B1 100 := b1
  have b2 : B2 63 = B1 63 := b2
  rw [← b1, ← b2]
  show hX z (cl + 0 + 0) (sl + 0 + 0) (T2, I2, L2, R2, B2) [(3, .int (nI (6 * t))), (2, .ref (B2 63)), (1, .ref (B2 100)), (0, .ref b)] 581 [.int (sByt W (xs (6 * t + 1)) (xs (6 * t + 2))).2]
  refine x_pop C dL_law_581 rfl ?_
  refine x_goto (tgt := 764) C dL_law_582 (by decide) ?_
  exact J _ _ _ _ _ _ _ _ (by omega) (by omega) X2 M2 (by unfold sByt; repeat (first | exact hP | split))
set_option maxHeartbeats 4000000 in
set_option maxRecDepth 100000 in
theorem arm_13 {z : hZ} (C : hC z RL code) (hZ : zR z = room_1) {b cl sl N t : Nat} (hcl : cl ≤ 200 + 12 * t) (hsl : sl ≤ 6000 + 343 * t) (hN : N ≤ 3072) (ht : 6 * t + 6 ≤ N) {xs : Nat → Int32} (hS : va_X b N xs (zs z) (zs z).heap) (hbl : b < (zs z).heap.size) (hb0 : b < z0 z) {W : wW} {T : Nat → Option hKd} {I : Nat → Nat → Int32} {L : Nat → Nat → Int64} {R : Nat → Nat → Option Nat} {A : Nat → Nat} (gX : XR (z0 z) (zS z) W T I R A) (gM : MR (z0 z) W T I R A) (hP : PI W) (J : lwJ z b t) : hX z cl sl (T, I, L, R, A) [(3, .int (nI (6 * t))), (2, .ref (A 63)), (1, .ref (A 100)), (0, .ref b)] 585 [] := by
  refine x_aload_n C dL_law_585 2 rfl rfl ?_
  refine x_aload_n C dL_law_586 3 rfl rfl ?_
  refine x_iload_n C dL_law_587 0 rfl rfl ?_
  refine x_iconst (v := nI 1) C dL_law_588 (by decide +kernel) ?_
  refine x_iaddN C dL_law_589 ?_
  refine x_sldN (k := 6 * t + 1) C hS hbl hb0 (by omega) (by omega) dL_law_590 ?_
  refine x_aload_n C dL_law_591 3 rfl rfl ?_
  refine x_iload_n C dL_law_592 0 rfl rfl ?_
  refine x_iconst (v := nI 2) C dL_law_593 (by decide +kernel) ?_
  refine x_iaddN C dL_law_594 ?_
  refine x_sldN (k := 6 * t + 2) C hS hbl hb0 (by omega) (by omega) dL_law_595 ?_
  refine x_callV C (xw_hash gX gM hP (xs (6 * t + 1)) (xs (6 * t + 2))) mv_X10_hash ml_L_72 (gX.1.1.1 100 _ rfl).1 rfl rfl rfl (Nat.le_of_ble_eq_true rfl) (hrm (rm := { frames := 0, cells := 0, slots := 0, locals := 0 }) hZ ⟨Nat.le_of_ble_eq_true rfl, Nat.le_of_ble_eq_true rfl⟩) (hcs hZ ⟨by show cl + 0 ≤ 600000; omega, by show sl + 0 ≤ 7302250; omega⟩) dL_law_596 (fun v G' hp => ?_)
  obtain ⟨T1, I1, L1, R1, B1⟩ := G'
  obtain ⟨rfl, X1, M1, a1, a2⟩ := hp
  have X1 : XR (z0 z) (zS z) ((sHsh W (xs (6 * t + 1)) (xs (6 * t + 2))).1) T1 I1 R1 B1 := X1
  have M1 : MR (z0 z) W T1 I1 R1 B1 := M1
  have a1 : B1 100 = A 100 := a1
  have a2 : B1 63 = A 63 := a2
  rw [← a1, ← a2]
  show hX z (cl + 0) (sl + 0) (T1, I1, L1, R1, B1) [(3, .int (nI (6 * t))), (2, .ref (B1 63)), (1, .ref (B1 100)), (0, .ref b)] 599 [.int (sHsh W (xs (6 * t + 1)) (xs (6 * t + 2))).2]
  refine x_pop C dL_law_599 rfl ?_
  refine x_aload_n C dL_law_600 1 rfl rfl ?_
  refine x_aload_n C dL_law_601 3 rfl rfl ?_
  refine x_iload_n C dL_law_602 0 rfl rfl ?_
  refine x_iconst (v := nI 1) C dL_law_603 (by decide +kernel) ?_
  refine x_iaddN C dL_law_604 ?_
  refine x_sldN (k := 6 * t + 1) C hS hbl hb0 (by omega) (by omega) dL_law_605 ?_
  refine x_aload_n C dL_law_606 3 rfl rfl ?_
  refine x_iload_n C dL_law_607 0 rfl rfl ?_
  refine x_iconst (v := nI 2) C dL_law_608 (by decide +kernel) ?_
  refine x_iaddN C dL_law_609 ?_
  refine x_sldN (k := 6 * t + 2) C hS hbl hb0 (by omega) (by omega) dL_law_610 ?_
  refine x_callV C (mw_hash X1 M1 hP (xs (6 * t + 1)) (xs (6 * t + 2))) mv_X11_hash ml_L_75 M1.1.1.1 rfl rfl rfl (Nat.le_of_ble_eq_true rfl) (hrm (rm := { frames := 0, cells := 0, slots := 0, locals := 0 }) hZ ⟨Nat.le_of_ble_eq_true rfl, Nat.le_of_ble_eq_true rfl⟩) (hcs hZ ⟨by show cl + 0 + 0 ≤ 600000; omega, by show sl + 0 + 0 ≤ 7302250; omega⟩) dL_law_611 (fun v G' hp => ?_)
  obtain ⟨T2, I2, L2, R2, B2⟩ := G'
  obtain ⟨rfl, X2, M2, b1, b2⟩ := hp
  have X2 : XR (z0 z) (zS z) ((sHsh W (xs (6 * t + 1)) (xs (6 * t + 2))).1) T2 I2 R2 B2 := X2
  have M2 : MR (z0 z) ((sHsh W (xs (6 * t + 1)) (xs (6 * t + 2))).1) T2 I2 R2 B2 := M2
  have b1 : B2 100 = B1 100 := b1
  have b2 : B2 63 = B1 63 := b2
  rw [← b1, ← b2]
  show hX z (cl + 0 + 0) (sl + 0 + 0) (T2, I2, L2, R2, B2) [(3, .int (nI (6 * t))), (2, .ref (B2 63)), (1, .ref (B2 100)), (0, .ref b)] 614 [.int (sHsh W (xs (6 * t + 1)) (xs (6 * t + 2))).2]
  refine x_pop C dL_law_614 rfl ?_
  refine x_goto (tgt := 764) C dL_law_615 (by decide) ?_
  exact J _ _ _ _ _ _ _ _ (by omega) (by omega) X2 M2 (by unfold sHsh; repeat (first | exact hP | split))
set_option maxHeartbeats 4000000 in
set_option maxRecDepth 100000 in
theorem arm_14 {z : hZ} (C : hC z RL code) (hZ : zR z = room_1) {b cl sl N t : Nat} (hcl : cl ≤ 200 + 12 * t) (hsl : sl ≤ 6000 + 343 * t) (hN : N ≤ 3072) (ht : 6 * t + 6 ≤ N) {xs : Nat → Int32} (hS : va_X b N xs (zs z) (zs z).heap) (hbl : b < (zs z).heap.size) (hb0 : b < z0 z) {W : wW} {T : Nat → Option hKd} {I : Nat → Nat → Int32} {L : Nat → Nat → Int64} {R : Nat → Nat → Option Nat} {A : Nat → Nat} (gX : XR (z0 z) (zS z) W T I R A) (gM : MR (z0 z) W T I R A) (hP : PI W) (J : lwJ z b t) : hX z cl sl (T, I, L, R, A) [(3, .int (nI (6 * t))), (2, .ref (A 63)), (1, .ref (A 100)), (0, .ref b)] 618 [] := by
  refine x_aload_n C dL_law_618 2 rfl rfl ?_
  refine x_aload_n C dL_law_619 3 rfl rfl ?_
  refine x_iload_n C dL_law_620 0 rfl rfl ?_
  refine x_iconst (v := nI 1) C dL_law_621 (by decide +kernel) ?_
  refine x_iaddN C dL_law_622 ?_
  refine x_sldN (k := 6 * t + 1) C hS hbl hb0 (by omega) (by omega) dL_law_623 ?_
  refine x_aload_n C dL_law_624 3 rfl rfl ?_
  refine x_iload_n C dL_law_625 0 rfl rfl ?_
  refine x_iconst (v := nI 2) C dL_law_626 (by decide +kernel) ?_
  refine x_iaddN C dL_law_627 ?_
  refine x_sldN (k := 6 * t + 2) C hS hbl hb0 (by omega) (by omega) dL_law_628 ?_
  refine x_callV C (xw_about gX gM hP (xs (6 * t + 1)) (xs (6 * t + 2))) mv_X10_about ml_L_76 (gX.1.1.1 100 _ rfl).1 rfl rfl rfl (Nat.le_of_ble_eq_true rfl) (hrm (rm := { frames := 0, cells := 0, slots := 0, locals := 0 }) hZ ⟨Nat.le_of_ble_eq_true rfl, Nat.le_of_ble_eq_true rfl⟩) (hcs hZ ⟨by show cl + 0 ≤ 600000; omega, by show sl + 0 ≤ 7302250; omega⟩) dL_law_629 (fun v G' hp => ?_)
  obtain ⟨T1, I1, L1, R1, B1⟩ := G'
  obtain ⟨rfl, X1, M1, a1, a2⟩ := hp
  have X1 : XR (z0 z) (zS z) ((sAbo W (xs (6 * t + 1)) (xs (6 * t + 2))).1) T1 I1 R1 B1 := X1
  have M1 : MR (z0 z) W T1 I1 R1 B1 := M1
  have a1 : B1 100 = A 100 := a1
  have a2 : B1 63 = A 63 := a2
  rw [← a1, ← a2]
  show hX z (cl + 0) (sl + 0) (T1, I1, L1, R1, B1) [(3, .int (nI (6 * t))), (2, .ref (B1 63)), (1, .ref (B1 100)), (0, .ref b)] 632 [.int (sAbo W (xs (6 * t + 1)) (xs (6 * t + 2))).2]
  refine x_pop C dL_law_632 rfl ?_
  refine x_aload_n C dL_law_633 1 rfl rfl ?_
  refine x_aload_n C dL_law_634 3 rfl rfl ?_
  refine x_iload_n C dL_law_635 0 rfl rfl ?_
  refine x_iconst (v := nI 1) C dL_law_636 (by decide +kernel) ?_
  refine x_iaddN C dL_law_637 ?_
  refine x_sldN (k := 6 * t + 1) C hS hbl hb0 (by omega) (by omega) dL_law_638 ?_
  refine x_aload_n C dL_law_639 3 rfl rfl ?_
  refine x_iload_n C dL_law_640 0 rfl rfl ?_
  refine x_iconst (v := nI 2) C dL_law_641 (by decide +kernel) ?_
  refine x_iaddN C dL_law_642 ?_
  refine x_sldN (k := 6 * t + 2) C hS hbl hb0 (by omega) (by omega) dL_law_643 ?_
  refine x_callV C (mw_about X1 M1 hP (xs (6 * t + 1)) (xs (6 * t + 2))) mv_X11_about ml_L_79 M1.1.1.1 rfl rfl rfl (Nat.le_of_ble_eq_true rfl) (hrm (rm := { frames := 0, cells := 0, slots := 0, locals := 0 }) hZ ⟨Nat.le_of_ble_eq_true rfl, Nat.le_of_ble_eq_true rfl⟩) (hcs hZ ⟨by show cl + 0 + 0 ≤ 600000; omega, by show sl + 0 + 0 ≤ 7302250; omega⟩) dL_law_644 (fun v G' hp => ?_)
  obtain ⟨T2, I2, L2, R2, B2⟩ := G'
  obtain ⟨rfl, X2, M2, b1, b2⟩ := hp
  have X2 : XR (z0 z) (zS z) ((sAbo W (xs (6 * t + 1)) (xs (6 * t + 2))).1) T2 I2 R2 B2 := X2
  have M2 : MR (z0 z) ((sAbo W (xs (6 * t + 1)) (xs (6 * t + 2))).1) T2 I2 R2 B2 := M2
  have b1 : B2 100 = B1 100 := b1
  have b2 : B2 63 = B1 63 := b2
  rw [← b1, ← b2]
  show hX z (cl + 0 + 0) (sl + 0 + 0) (T2, I2, L2, R2, B2) [(3, .int (nI (6 * t))), (2, .ref (B2 63)), (1, .ref (B2 100)), (0, .ref b)] 647 [.int (sAbo W (xs (6 * t + 1)) (xs (6 * t + 2))).2]
  refine x_pop C dL_law_647 rfl ?_
  refine x_goto (tgt := 764) C dL_law_648 (by decide) ?_
  exact J _ _ _ _ _ _ _ _ (by omega) (by omega) X2 M2 (by unfold sAbo; repeat (first | exact hP | split))
set_option maxHeartbeats 4000000 in
set_option maxRecDepth 100000 in
theorem arm_15 {z : hZ} (C : hC z RL code) (hZ : zR z = room_1) {b cl sl N t : Nat} (hcl : cl ≤ 200 + 12 * t) (hsl : sl ≤ 6000 + 343 * t) (hN : N ≤ 3072) (ht : 6 * t + 6 ≤ N) {xs : Nat → Int32} (hS : va_X b N xs (zs z) (zs z).heap) (hbl : b < (zs z).heap.size) (hb0 : b < z0 z) {W : wW} {T : Nat → Option hKd} {I : Nat → Nat → Int32} {L : Nat → Nat → Int64} {R : Nat → Nat → Option Nat} {A : Nat → Nat} (gX : XR (z0 z) (zS z) W T I R A) (gM : MR (z0 z) W T I R A) (hP : PI W) (J : lwJ z b t) : hX z cl sl (T, I, L, R, A) [(3, .int (nI (6 * t))), (2, .ref (A 63)), (1, .ref (A 100)), (0, .ref b)] 651 [] := by
  refine x_aload_n C dL_law_651 2 rfl rfl ?_
  refine x_aload_n C dL_law_652 3 rfl rfl ?_
  refine x_iload_n C dL_law_653 0 rfl rfl ?_
  refine x_iconst (v := nI 1) C dL_law_654 (by decide +kernel) ?_
  refine x_iaddN C dL_law_655 ?_
  refine x_sldN (k := 6 * t + 1) C hS hbl hb0 (by omega) (by omega) dL_law_656 ?_
  refine x_aload_n C dL_law_657 3 rfl rfl ?_
  refine x_iload_n C dL_law_658 0 rfl rfl ?_
  refine x_iconst (v := nI 2) C dL_law_659 (by decide +kernel) ?_
  refine x_iaddN C dL_law_660 ?_
  refine x_sldN (k := 6 * t + 2) C hS hbl hb0 (by omega) (by omega) dL_law_661 ?_
  refine x_callV C (xw_same gX gM hP (xs (6 * t + 1)) (xs (6 * t + 2))) mv_X10_same ml_L_80 (gX.1.1.1 100 _ rfl).1 rfl rfl rfl (Nat.le_of_ble_eq_true rfl) (hrm (rm := { frames := 0, cells := 0, slots := 0, locals := 0 }) hZ ⟨Nat.le_of_ble_eq_true rfl, Nat.le_of_ble_eq_true rfl⟩) (hcs hZ ⟨by show cl + 0 ≤ 600000; omega, by show sl + 0 ≤ 7302250; omega⟩) dL_law_662 (fun v G' hp => ?_)
  obtain ⟨T1, I1, L1, R1, B1⟩ := G'
  obtain ⟨rfl, X1, M1, a1, a2⟩ := hp
  have X1 : XR (z0 z) (zS z) ((sSam W (xs (6 * t + 1)) (xs (6 * t + 2))).1) T1 I1 R1 B1 := X1
  have M1 : MR (z0 z) W T1 I1 R1 B1 := M1
  have a1 : B1 100 = A 100 := a1
  have a2 : B1 63 = A 63 := a2
  rw [← a1, ← a2]
  show hX z (cl + 0) (sl + 0) (T1, I1, L1, R1, B1) [(3, .int (nI (6 * t))), (2, .ref (B1 63)), (1, .ref (B1 100)), (0, .ref b)] 665 [.int (sSam W (xs (6 * t + 1)) (xs (6 * t + 2))).2]
  refine x_pop C dL_law_665 rfl ?_
  refine x_aload_n C dL_law_666 1 rfl rfl ?_
  refine x_aload_n C dL_law_667 3 rfl rfl ?_
  refine x_iload_n C dL_law_668 0 rfl rfl ?_
  refine x_iconst (v := nI 1) C dL_law_669 (by decide +kernel) ?_
  refine x_iaddN C dL_law_670 ?_
  refine x_sldN (k := 6 * t + 1) C hS hbl hb0 (by omega) (by omega) dL_law_671 ?_
  refine x_aload_n C dL_law_672 3 rfl rfl ?_
  refine x_iload_n C dL_law_673 0 rfl rfl ?_
  refine x_iconst (v := nI 2) C dL_law_674 (by decide +kernel) ?_
  refine x_iaddN C dL_law_675 ?_
  refine x_sldN (k := 6 * t + 2) C hS hbl hb0 (by omega) (by omega) dL_law_676 ?_
  refine x_callV C (mw_same X1 M1 hP (xs (6 * t + 1)) (xs (6 * t + 2))) mv_X11_same ml_L_83 M1.1.1.1 rfl rfl rfl (Nat.le_of_ble_eq_true rfl) (hrm (rm := { frames := 0, cells := 0, slots := 0, locals := 0 }) hZ ⟨Nat.le_of_ble_eq_true rfl, Nat.le_of_ble_eq_true rfl⟩) (hcs hZ ⟨by show cl + 0 + 0 ≤ 600000; omega, by show sl + 0 + 0 ≤ 7302250; omega⟩) dL_law_677 (fun v G' hp => ?_)
  obtain ⟨T2, I2, L2, R2, B2⟩ := G'
  obtain ⟨rfl, X2, M2, b1, b2⟩ := hp
  have X2 : XR (z0 z) (zS z) ((sSam W (xs (6 * t + 1)) (xs (6 * t + 2))).1) T2 I2 R2 B2 := X2
  have M2 : MR (z0 z) ((sSam W (xs (6 * t + 1)) (xs (6 * t + 2))).1) T2 I2 R2 B2 := M2
  have b1 : B2 100 = B1 100 := b1
  have b2 : B2 63 = B1 63 := b2
  rw [← b1, ← b2]
  show hX z (cl + 0 + 0) (sl + 0 + 0) (T2, I2, L2, R2, B2) [(3, .int (nI (6 * t))), (2, .ref (B2 63)), (1, .ref (B2 100)), (0, .ref b)] 680 [.int (sSam W (xs (6 * t + 1)) (xs (6 * t + 2))).2]
  refine x_pop C dL_law_680 rfl ?_
  refine x_goto (tgt := 764) C dL_law_681 (by decide) ?_
  exact J _ _ _ _ _ _ _ _ (by omega) (by omega) X2 M2 (by unfold sSam sSamK; repeat (first | exact hP | split))
set_option maxHeartbeats 4000000 in
set_option maxRecDepth 100000 in
theorem arm_16 {z : hZ} (C : hC z RL code) (hZ : zR z = room_1) {b cl sl N t : Nat} (hcl : cl ≤ 200 + 12 * t) (hsl : sl ≤ 6000 + 343 * t) (hN : N ≤ 3072) (ht : 6 * t + 6 ≤ N) {xs : Nat → Int32} (hS : va_X b N xs (zs z) (zs z).heap) (hbl : b < (zs z).heap.size) (hb0 : b < z0 z) {W : wW} {T : Nat → Option hKd} {I : Nat → Nat → Int32} {L : Nat → Nat → Int64} {R : Nat → Nat → Option Nat} {A : Nat → Nat} (gX : XR (z0 z) (zS z) W T I R A) (gM : MR (z0 z) W T I R A) (hP : PI W) (J : lwJ z b t) : hX z cl sl (T, I, L, R, A) [(3, .int (nI (6 * t))), (2, .ref (A 63)), (1, .ref (A 100)), (0, .ref b)] 684 [] := by
  refine x_aload_n C dL_law_684 2 rfl rfl ?_
  refine x_aload_n C dL_law_685 3 rfl rfl ?_
  refine x_iload_n C dL_law_686 0 rfl rfl ?_
  refine x_iconst (v := nI 1) C dL_law_687 (by decide +kernel) ?_
  refine x_iaddN C dL_law_688 ?_
  refine x_sldN (k := 6 * t + 1) C hS hbl hb0 (by omega) (by omega) dL_law_689 ?_
  refine x_aload_n C dL_law_690 3 rfl rfl ?_
  refine x_iload_n C dL_law_691 0 rfl rfl ?_
  refine x_iconst (v := nI 2) C dL_law_692 (by decide +kernel) ?_
  refine x_iaddN C dL_law_693 ?_
  refine x_sldN (k := 6 * t + 2) C hS hbl hb0 (by omega) (by omega) dL_law_694 ?_
  refine x_aload_n C dL_law_695 3 rfl rfl ?_
  refine x_iload_n C dL_law_696 0 rfl rfl ?_
  refine x_iconst (v := nI 3) C dL_law_697 (by decide +kernel) ?_
  refine x_iaddN C dL_law_698 ?_
  refine x_sldN (k := 6 * t + 3) C hS hbl hb0 (by omega) (by omega) dL_law_699 ?_
  refine x_callV C (xw_key gX gM hP (xs (6 * t + 1)) (xs (6 * t + 2)) (xs (6 * t + 3))) mv_X10_key ml_L_84 (gX.1.1.1 100 _ rfl).1 rfl rfl rfl (Nat.le_of_ble_eq_true rfl) (hrm (rm := { frames := 0, cells := 0, slots := 0, locals := 0 }) hZ ⟨Nat.le_of_ble_eq_true rfl, Nat.le_of_ble_eq_true rfl⟩) (hcs hZ ⟨by show cl + 0 ≤ 600000; omega, by show sl + 0 ≤ 7302250; omega⟩) dL_law_700 (fun v G' hp => ?_)
  obtain ⟨T1, I1, L1, R1, B1⟩ := G'
  obtain ⟨rfl, X1, M1, a1, a2⟩ := hp
  have X1 : XR (z0 z) (zS z) ((sKey W (xs (6 * t + 1)) (xs (6 * t + 2)) (xs (6 * t + 3))).1) T1 I1 R1 B1 := X1
  have M1 : MR (z0 z) W T1 I1 R1 B1 := M1
  have a1 : B1 100 = A 100 := a1
  have a2 : B1 63 = A 63 := a2
  rw [← a1, ← a2]
  show hX z (cl + 0) (sl + 0) (T1, I1, L1, R1, B1) [(3, .int (nI (6 * t))), (2, .ref (B1 63)), (1, .ref (B1 100)), (0, .ref b)] 703 [.int (sKey W (xs (6 * t + 1)) (xs (6 * t + 2)) (xs (6 * t + 3))).2]
  refine x_pop C dL_law_703 rfl ?_
  refine x_aload_n C dL_law_704 1 rfl rfl ?_
  refine x_aload_n C dL_law_705 3 rfl rfl ?_
  refine x_iload_n C dL_law_706 0 rfl rfl ?_
  refine x_iconst (v := nI 1) C dL_law_707 (by decide +kernel) ?_
  refine x_iaddN C dL_law_708 ?_
  refine x_sldN (k := 6 * t + 1) C hS hbl hb0 (by omega) (by omega) dL_law_709 ?_
  refine x_aload_n C dL_law_710 3 rfl rfl ?_
  refine x_iload_n C dL_law_711 0 rfl rfl ?_
  refine x_iconst (v := nI 2) C dL_law_712 (by decide +kernel) ?_
  refine x_iaddN C dL_law_713 ?_
  refine x_sldN (k := 6 * t + 2) C hS hbl hb0 (by omega) (by omega) dL_law_714 ?_
  refine x_aload_n C dL_law_715 3 rfl rfl ?_
  refine x_iload_n C dL_law_716 0 rfl rfl ?_
  refine x_iconst (v := nI 3) C dL_law_717 (by decide +kernel) ?_
  refine x_iaddN C dL_law_718 ?_
  refine x_sldN (k := 6 * t + 3) C hS hbl hb0 (by omega) (by omega) dL_law_719 ?_
  refine x_callV C (mw_key X1 M1 hP (xs (6 * t + 1)) (xs (6 * t + 2)) (xs (6 * t + 3))) mv_X11_key ml_L_88 M1.1.1.1 rfl rfl rfl (Nat.le_of_ble_eq_true rfl) (hrm (rm := { frames := 0, cells := 0, slots := 0, locals := 0 }) hZ ⟨Nat.le_of_ble_eq_true rfl, Nat.le_of_ble_eq_true rfl⟩) (hcs hZ ⟨by show cl + 0 + 0 ≤ 600000; omega, by show sl + 0 + 0 ≤ 7302250; omega⟩) dL_law_720 (fun v G' hp => ?_)
  obtain ⟨T2, I2, L2, R2, B2⟩ := G'
  obtain ⟨rfl, X2, M2, b1, b2⟩ := hp
  have X2 : XR (z0 z) (zS z) ((sKey W (xs (6 * t + 1)) (xs (6 * t + 2)) (xs (6 * t + 3))).1) T2 I2 R2 B2 := X2
  have M2 : MR (z0 z) ((sKey W (xs (6 * t + 1)) (xs (6 * t + 2)) (xs (6 * t + 3))).1) T2 I2 R2 B2 := M2
  have b1 : B2 100 = B1 100 := b1
  have b2 : B2 63 = B1 63 := b2
  rw [← b1, ← b2]
  show hX z (cl + 0 + 0) (sl + 0 + 0) (T2, I2, L2, R2, B2) [(3, .int (nI (6 * t))), (2, .ref (B2 63)), (1, .ref (B2 100)), (0, .ref b)] 723 [.int (sKey W (xs (6 * t + 1)) (xs (6 * t + 2)) (xs (6 * t + 3))).2]
  refine x_pop C dL_law_723 rfl ?_
  refine x_goto (tgt := 764) C dL_law_724 (by decide) ?_
  exact J _ _ _ _ _ _ _ _ (by omega) (by omega) X2 M2 (by unfold sKey; repeat (first | exact hP | split))
set_option maxHeartbeats 4000000 in
set_option maxRecDepth 100000 in
theorem arm_17 {z : hZ} (C : hC z RL code) (hZ : zR z = room_1) {b cl sl N t : Nat} (hcl : cl ≤ 200 + 12 * t) (hsl : sl ≤ 6000 + 343 * t) (hN : N ≤ 3072) (ht : 6 * t + 6 ≤ N) {xs : Nat → Int32} (hS : va_X b N xs (zs z) (zs z).heap) (hbl : b < (zs z).heap.size) (hb0 : b < z0 z) {W : wW} {T : Nat → Option hKd} {I : Nat → Nat → Int32} {L : Nat → Nat → Int64} {R : Nat → Nat → Option Nat} {A : Nat → Nat} (gX : XR (z0 z) (zS z) W T I R A) (gM : MR (z0 z) W T I R A) (hP : PI W) (J : lwJ z b t) : hX z cl sl (T, I, L, R, A) [(3, .int (nI (6 * t))), (2, .ref (A 63)), (1, .ref (A 100)), (0, .ref b)] 727 [] := by
  refine x_aload_n C dL_law_727 2 rfl rfl ?_
  refine x_aload_n C dL_law_728 3 rfl rfl ?_
  refine x_iload_n C dL_law_729 0 rfl rfl ?_
  refine x_iconst (v := nI 1) C dL_law_730 (by decide +kernel) ?_
  refine x_iaddN C dL_law_731 ?_
  refine x_sldN (k := 6 * t + 1) C hS hbl hb0 (by omega) (by omega) dL_law_732 ?_
  refine x_callV C (xw_count gX gM hP (xs (6 * t + 1))) mv_X10_count ml_L_89 (gX.1.1.1 100 _ rfl).1 rfl rfl rfl (Nat.le_of_ble_eq_true rfl) (hrm (rm := { frames := 0, cells := 0, slots := 0, locals := 0 }) hZ ⟨Nat.le_of_ble_eq_true rfl, Nat.le_of_ble_eq_true rfl⟩) (hcs hZ ⟨by show cl + 0 ≤ 600000; omega, by show sl + 0 ≤ 7302250; omega⟩) dL_law_733 (fun v G' hp => ?_)
  obtain ⟨T1, I1, L1, R1, B1⟩ := G'
  obtain ⟨rfl, X1, M1, a1, a2⟩ := hp
  have X1 : XR (z0 z) (zS z) ((sCnt W (xs (6 * t + 1))).1) T1 I1 R1 B1 := X1
  have M1 : MR (z0 z) W T1 I1 R1 B1 := M1
  have a1 : B1 100 = A 100 := a1
  have a2 : B1 63 = A 63 := a2
  rw [← a1, ← a2]
  show hX z (cl + 0) (sl + 0) (T1, I1, L1, R1, B1) [(3, .int (nI (6 * t))), (2, .ref (B1 63)), (1, .ref (B1 100)), (0, .ref b)] 736 [.int (sCnt W (xs (6 * t + 1))).2]
  refine x_pop C dL_law_736 rfl ?_
  refine x_aload_n C dL_law_737 1 rfl rfl ?_
  refine x_aload_n C dL_law_738 3 rfl rfl ?_
  refine x_iload_n C dL_law_739 0 rfl rfl ?_
  refine x_iconst (v := nI 1) C dL_law_740 (by decide +kernel) ?_
  refine x_iaddN C dL_law_741 ?_
  refine x_sldN (k := 6 * t + 1) C hS hbl hb0 (by omega) (by omega) dL_law_742 ?_
  refine x_callV C (mw_count X1 M1 hP (xs (6 * t + 1))) mv_X11_count ml_L_92 M1.1.1.1 rfl rfl rfl (Nat.le_of_ble_eq_true rfl) (hrm (rm := { frames := 0, cells := 0, slots := 0, locals := 0 }) hZ ⟨Nat.le_of_ble_eq_true rfl, Nat.le_of_ble_eq_true rfl⟩) (hcs hZ ⟨by show cl + 0 + 0 ≤ 600000; omega, by show sl + 0 + 0 ≤ 7302250; omega⟩) dL_law_743 (fun v G' hp => ?_)
  obtain ⟨T2, I2, L2, R2, B2⟩ := G'
  obtain ⟨rfl, X2, M2, b1, b2⟩ := hp
  have X2 : XR (z0 z) (zS z) ((sCnt W (xs (6 * t + 1))).1) T2 I2 R2 B2 := X2
  have M2 : MR (z0 z) ((sCnt W (xs (6 * t + 1))).1) T2 I2 R2 B2 := M2
  have b1 : B2 100 = B1 100 := b1
  have b2 : B2 63 = B1 63 := b2
  rw [← b1, ← b2]
  show hX z (cl + 0 + 0) (sl + 0 + 0) (T2, I2, L2, R2, B2) [(3, .int (nI (6 * t))), (2, .ref (B2 63)), (1, .ref (B2 100)), (0, .ref b)] 746 [.int (sCnt W (xs (6 * t + 1))).2]
  refine x_pop C dL_law_746 rfl ?_
  refine x_goto (tgt := 764) C dL_law_747 (by decide) ?_
  exact J _ _ _ _ _ _ _ _ (by omega) (by omega) X2 M2 (by unfold sCnt; repeat (first | exact hP | split))
set_option maxHeartbeats 4000000 in
set_option maxRecDepth 100000 in
theorem arm_18 {z : hZ} (C : hC z RL code) (hZ : zR z = room_1) {b cl sl N t : Nat} (hcl : cl ≤ 200 + 12 * t) (hsl : sl ≤ 6000 + 343 * t) (hN : N ≤ 3072) (ht : 6 * t + 6 ≤ N) {xs : Nat → Int32} (hS : va_X b N xs (zs z) (zs z).heap) (hbl : b < (zs z).heap.size) (hb0 : b < z0 z) {W : wW} {T : Nat → Option hKd} {I : Nat → Nat → Int32} {L : Nat → Nat → Int64} {R : Nat → Nat → Option Nat} {A : Nat → Nat} (gX : XR (z0 z) (zS z) W T I R A) (gM : MR (z0 z) W T I R A) (hP : PI W) (J : lwJ z b t) : hX z cl sl (T, I, L, R, A) [(3, .int (nI (6 * t))), (2, .ref (A 63)), (1, .ref (A 100)), (0, .ref b)] 750 [] := by
  refine x_aload_n C dL_law_750 2 rfl rfl ?_
  refine x_callV C (xw_digest gX gM hP ) mv_X10_digest ml_L_93 (gX.1.1.1 100 _ rfl).1 rfl rfl rfl (Nat.le_of_ble_eq_true rfl) (hrm (rm := { frames := 0, cells := 0, slots := 0, locals := 0 }) hZ ⟨Nat.le_of_ble_eq_true rfl, Nat.le_of_ble_eq_true rfl⟩) (hcs hZ ⟨by show cl + 0 ≤ 600000; omega, by show sl + 0 ≤ 7302250; omega⟩) dL_law_751 (fun v G' hp => ?_)
  obtain ⟨T1, I1, L1, R1, B1⟩ := G'
  obtain ⟨rfl, X1, M1, a1, a2⟩ := hp
  have X1 : XR (z0 z) (zS z) W T1 I1 R1 B1 := X1
  have M1 : MR (z0 z) W T1 I1 R1 B1 := M1
  have a1 : B1 100 = A 100 := a1
  have a2 : B1 63 = A 63 := a2
  rw [← a1, ← a2]
  show hX z (cl + 0) (sl + 0) (T1, I1, L1, R1, B1) [(3, .int (nI (6 * t))), (2, .ref (B1 63)), (1, .ref (B1 100)), (0, .ref b)] 754 [.long (dgW W)]
  refine x_aload_n C dL_law_754 1 rfl rfl ?_
  refine x_callV C (mw_digest X1 M1 hP ) mv_X11_digest ml_L_97 M1.1.1.1 rfl rfl rfl (Nat.le_of_ble_eq_true rfl) (hrm (rm := { frames := 0, cells := 0, slots := 0, locals := 0 }) hZ ⟨Nat.le_of_ble_eq_true rfl, Nat.le_of_ble_eq_true rfl⟩) (hcs hZ ⟨by show cl + 0 + 0 ≤ 600000; omega, by show sl + 0 + 0 ≤ 7302250; omega⟩) dL_law_755 (fun v G' hp => ?_)
  obtain ⟨T2, I2, L2, R2, B2⟩ := G'
  obtain ⟨rfl, X2, M2, b1, b2⟩ := hp
  have X2 : XR (z0 z) (zS z) W T2 I2 R2 B2 := X2
  have M2 : MR (z0 z) W T2 I2 R2 B2 := M2
  have b1 : B2 100 = B1 100 := b1
  have b2 : B2 63 = B1 63 := b2
  rw [← b1, ← b2]
  show hX z (cl + 0 + 0) (sl + 0 + 0) (T2, I2, L2, R2, B2) [(3, .int (nI (6 * t))), (2, .ref (B2 63)), (1, .ref (B2 100)), (0, .ref b)] 758 [.long (dgW W), .long (dgW W)]
  refine x_lcmp C dL_law_758 ?_
  refine x_if_eq (tgt := 764) C dL_law_759 (by decide) (fun _ => ?_) (fun c => absurd (lcmp_s _) c)
  exact J _ _ _ _ _ _ _ _ (by omega) (by omega) X2 M2 hP
