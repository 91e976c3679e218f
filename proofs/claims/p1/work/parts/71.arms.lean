/-! ===== the law ===== -/
theorem sw_out {x : Int32} {n : Nat} (hn : n < 2 ^ 31) (h : ∀ k, k ≤ n → ¬ x = nI k) : x.toInt < 0 ∨ (n : Int) < x.toInt := by
  by_cases g : x.toInt < 0
  · exact Or.inl g
  · refine Or.inr (Int.not_le.mp fun g2 => ?_)
    exact h x.toInt.toNat (by omega) (sw_nI (by omega) (by omega))
section HXS
variable {z : hZ} {own : String} {cc : ByteArray} {cells slots pc : Nat} {G : hG} {lv : List (Nat × Value)} {rest : List Value} {b L : Nat} {xs : Nat → Int32}
theorem x_sldN (C : hC z own cc) (hS : va_X b L xs (zs z) (zs z).heap) (hbl : b < (zs z).heap.size) (hb0 : b < z0 z) {k : Nat} (hk : k < L) (hL : L < 2 ^ 31) (d : decode cc pc = .ok (.iaload, 1)) (kk : hX z cells slots G lv (pc + 1) (.int (xs k) :: rest)) : hX z cells slots G lv pc (.int (nI k) :: .ref b :: rest) := fun H locs ls h1 h2 h3 => va_sld C.1 C.2.1 hS hbl (Nat.not_le.mpr hb0) h2 (vp_in_nI hk hL) d (by rw [nI_clamp (by omega)]; exact kk H locs ls h1 h2 h3)
theorem x_slen (C : hC z own cc) (hS : va_X b L xs (zs z) (zs z).heap) (hbl : b < (zs z).heap.size) (hb0 : b < z0 z) (d : decode cc pc = .ok (.arraylength, 1)) (kk : hX z cells slots G lv (pc + 1) (.int (nI L) :: rest)) : hX z cells slots G lv pc (.ref b :: rest) := fun H locs ls h1 h2 h3 => va_slen C.1 C.2.1 hS hbl (Nat.not_le.mpr hb0) h2 d (kk H locs ls h1 h2 h3)
theorem x_ne0 (C : hC z own cc) {x : Int32} (d1 : decode cc pc = .ok (.ifCond .eq 7, 3)) (d2 : decode cc (pc + 3) = .ok (.iconst 1, 1)) (d3 : decode cc (pc + 4) = .ok (.goto 4, 3)) (d4 : decode cc (pc + 7) = .ok (.iconst 0, 1)) (kk : hX z cells slots G lv (pc + 8) (.int (bI (decide (¬ x = 0))) :: rest)) : hX z cells slots G lv pc (.int x :: rest) := by
  refine x_if_eq (tgt := pc + 7) C d1 (by omega) (fun c => ?_) (fun c => ?_)
  · refine x_iconst (v := nI 0) C d4 (by decide +kernel) ?_
    rw [decide_eq_false (fun h => h c)] at kk
    exact kk
  · refine x_iconst (v := nI 1) C d2 (by decide +kernel) ?_
    refine x_goto (tgt := pc + 8) C d3 (by omega) ?_
    rw [decide_eq_true c] at kk
    exact kk
end HXS
/-- what is fresh, of both -/
def frs (a0 : Nat) (sa : Nat → Nat) (T : Nat → Option hKd) (I : Nat → Nat → Int32) (L : Nat → Nat → Int64) (R : Nat → Nat → Option Nat) (A : Nat → Nat) : Prop := (isX T R A a0 ∧ (∀ k, k < 5 → sa k = A (90 + k)) ∧ stI I ∧ frX I) ∧ (isM T R A a0 ∧ frM I ∧ (∀ t, t < 8 → I 4 t = fSha t) ∧ (∀ t, t < 64 → I 5 t = kSha t) ∧ ∀ j, 0 < j → j < 32 → I 13 j = 0) ∧ cv4 R 124 125 126 127 ∧ fre 200 300 (T, I, L, R, A)
theorem frM.of {I J : Nat → Nat → Int32} (h : J 63 = I 63) (f : frM I) : frM J := by unfold frM; rw [h]; exact f
theorem mK_lt {k : Nat} {t : FieldType × Nat} (h : mK k = some t) : k < 63 := by
  rcases Nat.lt_or_ge k 63 with h1 | h1
  · exact h1
  · exfalso
    have : mK k = none := by
      unfold mK
      rw [List.getD_eq_getElem?_getD, List.getElem?_eq_none (Nat.le_trans (by decide) h1)]
      rfl
    rw [this] at h
    cases h
theorem isM.kept {T T' : Nat → Option hKd} {R R' : Nat → Nat → Option Nat} {A A' : Nat → Nat} {a0 : Nat} (h : isM T R A a0) (k : ∀ q, q < 64 → T' q = T q ∧ R' q = R q ∧ A' q = A q) : isM T' R' A' a0 := by
  refine ⟨by rw [(k 63 (by decide)).1]; exact h.1, by rw [(k 63 (by decide)).2.2]; exact h.2.1, fun q t e => ?_⟩
  have hq := mK_lt e
  obtain ⟨h1, h2, h3⟩ := h.2.2 q t e
  rw [(k 63 (by decide)).2.1, (k q (by omega)).1, (k q (by omega)).2.2]
  exact ⟨h1, h2, h3⟩
theorem fd_x {n : Int32} {k : Nat} (h : n < nI 1 ∨ nI 8 < n) (h1 : 1 ≤ k) (h8 : k ≤ 8) (e : n = nI k) : False := by
  rw [e] at h
  rcases h with h | h
  · have := (nI_ltI (by omega) (by omega)).mp h; omega
  · have := (nI_ltI (by omega) (by omega)).mp h; omega
theorem ky_x {n : Int32} {k : Nat} (h : n < 0 ∨ nI 32 ≤ n) (h1 : k < 32) (e : n = nI k) : False := by
  rw [e] at h
  rcases h with h | h
  · exact nI_pos (by omega) h
  · have := (nI_leI (by omega) (by omega)).mp h; omega
set_option maxHeartbeats 4000000 in
set_option maxRecDepth 100000 in
theorem arm_0 {z : hZ} (C : hC z RL code) (hZ : zR z = room_1) {b cl sl : Nat} (hcl : cl ≤ 10000) (hsl : sl ≤ 100000) {xs : Nat → Int32} (hS : va_X b 6 xs (zs z) (zs z).heap) (hbl : b < (zs z).heap.size) (hb0 : b < z0 z) {T : Nat → Option hKd} {I : Nat → Nat → Int32} {L : Nat → Nat → Int64} {R : Nat → Nat → Option Nat} {A : Nat → Nat} (F : frs (z0 z) (zS z) T I L R A) (J : ∀ (c s : Nat) (G : hG) (x1 x2 : Nat), c ≤ 600000 → s ≤ 7302250 → hX z c s G [(3, .int (nI 0)), (2, .ref x2), (1, .ref x1), (0, .ref b)] 764 []) : hX z cl sl (T, I, L, R, A) [(3, .int (nI 0)), (2, .ref (A 63)), (1, .ref (A 100)), (0, .ref b)] 124 [] := by
  obtain ⟨⟨xO, hsa, hst, f⟩, ⟨mO, fM, h4, h5, h13⟩, hcv, hfr⟩ := F
  refine x_aload_n C dL_law_124 2 rfl rfl ?_
  refine x_aload_n C dL_law_125 3 rfl rfl ?_
  refine x_iload_n C dL_law_126 0 rfl rfl ?_
  refine x_iconst (v := nI 1) C dL_law_127 (by decide +kernel) ?_
  refine x_iaddN C dL_law_128 ?_
  refine x_sldN (k := 1) C hS hbl hb0 (by decide) (by decide) dL_law_129 ?_
  refine x_ne0 C dL_law_130 dL_law_133 dL_law_134 dL_law_137 ?_
  refine x_aload_n C dL_law_138 3 rfl rfl ?_
  refine x_iload_n C dL_law_139 0 rfl rfl ?_
  refine x_iconst (v := nI 2) C dL_law_140 (by decide +kernel) ?_
  refine x_iaddN C dL_law_141 ?_
  refine x_sldN (k := 2) C hS hbl hb0 (by decide) (by decide) dL_law_142 ?_
  refine x_ne0 C dL_law_143 dL_law_146 dL_law_147 dL_law_150 ?_
  refine x_callV C (ok_X10_pattern (G := (T, I, L, R, A)) xO 0 200 rfl (by decide) f.1 hfr (bI (decide (¬ xs 1 = 0))) (bI (decide (¬ xs 2 = 0))) (bI_01 _) (bI_01 _)) mv_X10_pattern ml_L_13 (xO.1 100 _ rfl).1 rfl rfl rfl (Nat.le_of_ble_eq_true rfl) (hrm (rm := { frames := 0, cells := 0, slots := 0, locals := 0 }) hZ ⟨Nat.le_of_ble_eq_true rfl, Nat.le_of_ble_eq_true rfl⟩) (hcs hZ ⟨by show cl + 9 ≤ 600000; omega, by show sl + 48 ≤ 7302250; omega⟩) dL_law_151 (fun v G' hp => ?_)
  obtain ⟨rfl, Gm, a, ha, bb, hG⟩ := hp
  have kp : ∀ q, q < 64 → G'.1 q = T q ∧ G'.2.1 q = I q ∧ G'.2.2.2.1 q = R q ∧ G'.2.2.2.2 q = A q := by
    intro q hq
    have h1 := bb.2.1 q (by omega)
    rw [hG]
    refine ⟨h1.1.trans (va_up_other _ _ (by omega)), ?_, ?_, h1.2.1.trans (va_up_other _ _ (by omega))⟩
    · show va_up (va_up (va_up Gm.2.1 200 _) 200 _) 100 _ q = _
      rw [va_up_other _ _ (by omega), va_up_other _ _ (by omega), va_up_other _ _ (by omega), h1.2.2.2.1]
      exact va_up_other _ _ (by omega)
    · show va_up Gm.2.2.2.1 101 _ q = _
      rw [va_up_other _ _ (by omega), h1.2.2.2.2 (by omega)]
      exact va_up_other _ _ (by omega)
  have mO' : isM G'.1 G'.2.2.2.1 G'.2.2.2.2 (z0 z) := mO.kept (fun q hq => ⟨(kp q hq).1, (kp q hq).2.2.1, (kp q hq).2.2.2⟩)
  have fM' : frM G'.2.1 := frM.of (kp 63 (by decide)).2.1 fM
  have e63 : A 63 = gA G' 63 := (kp 63 (by decide)).2.2.2.symm
  show hX z (cl + 9) (sl + 48) G' [(3, .int (nI 0)), (2, .ref (A 63)), (1, .ref (A 100)), (0, .ref b)] 154 [.int (nI 0)]
  rw [e63]
  refine x_aload_n C dL_law_154 1 rfl rfl ?_
  refine x_aload_n C dL_law_155 3 rfl rfl ?_
  refine x_iload_n C dL_law_156 0 rfl rfl ?_
  refine x_iconst (v := nI 1) C dL_law_157 (by decide +kernel) ?_
  refine x_iaddN C dL_law_158 ?_
  refine x_sldN (k := 1) C hS hbl hb0 (by decide) (by decide) dL_law_159 ?_
  refine x_ne0 C dL_law_160 dL_law_163 dL_law_164 dL_law_167 ?_
  refine x_aload_n C dL_law_168 3 rfl rfl ?_
  refine x_iload_n C dL_law_169 0 rfl rfl ?_
  refine x_iconst (v := nI 2) C dL_law_170 (by decide +kernel) ?_
  refine x_iaddN C dL_law_171 ?_
  refine x_sldN (k := 2) C hS hbl hb0 (by decide) (by decide) dL_law_172 ?_
  refine x_ne0 C dL_law_173 dL_law_176 dL_law_177 dL_law_180 ?_
  refine x_callV C (of_X11_pattern (T := G'.1) (I := G'.2.1) (L := G'.2.2.1) (R := G'.2.2.2.1) (A := G'.2.2.2.2) mO' fM' (bI (decide (¬ xs 1 = 0))) (bI (decide (¬ xs 2 = 0))) (bI_01 _) (bI_01 _)) mv_X11_pattern ml_L_17 mO'.1 rfl rfl rfl (Nat.le_of_ble_eq_true rfl) (hrm (rm := { frames := 0, cells := 0, slots := 0, locals := 0 }) hZ ⟨Nat.le_of_ble_eq_true rfl, Nat.le_of_ble_eq_true rfl⟩) (hcs hZ ⟨by show cl + 9 + 0 ≤ 600000; omega, by show sl + 48 + 0 ≤ 7302250; omega⟩) dL_law_181 (fun v G2 hp => ?_)
  subst hp
  show hX z (cl + 9 + 0) (sl + 48 + 0) G2 [(3, .int (nI 0)), (2, .ref (gA G' 63)), (1, .ref (A 100)), (0, .ref b)] 184 [.int (nI 0), .int (nI 0)]
  refine x_icmp_eq (tgt := 764) C dL_law_184 (by decide) (fun _ => ?_) (fun c => absurd rfl c)
  exact J _ _ _ _ _ (by omega) (by omega)
set_option maxHeartbeats 4000000 in
set_option maxRecDepth 100000 in
theorem arm_1 {z : hZ} (C : hC z RL code) (hZ : zR z = room_1) {b cl sl : Nat} (hcl : cl ≤ 10000) (hsl : sl ≤ 100000) {xs : Nat → Int32} (hS : va_X b 6 xs (zs z) (zs z).heap) (hbl : b < (zs z).heap.size) (hb0 : b < z0 z) {T : Nat → Option hKd} {I : Nat → Nat → Int32} {L : Nat → Nat → Int64} {R : Nat → Nat → Option Nat} {A : Nat → Nat} (F : frs (z0 z) (zS z) T I L R A) (J : ∀ (c s : Nat) (G : hG) (x1 x2 : Nat), c ≤ 600000 → s ≤ 7302250 → hX z c s G [(3, .int (nI 0)), (2, .ref x2), (1, .ref x1), (0, .ref b)] 764 []) : hX z cl sl (T, I, L, R, A) [(3, .int (nI 0)), (2, .ref (A 63)), (1, .ref (A 100)), (0, .ref b)] 189 [] := by
  obtain ⟨⟨xO, hsa, hst, f⟩, ⟨mO, fM, h4, h5, h13⟩, hcv, hfr⟩ := F
  refine x_aload_n C dL_law_189 2 rfl rfl ?_
  refine x_aload_n C dL_law_190 3 rfl rfl ?_
  refine x_iload_n C dL_law_191 0 rfl rfl ?_
  refine x_iconst (v := nI 1) C dL_law_192 (by decide +kernel) ?_
  refine x_iaddN C dL_law_193 ?_
  refine x_sldN (k := 1) C hS hbl hb0 (by decide) (by decide) dL_law_194 ?_
  refine x_callV C (of_X10_message xO hsa f (xs 1)) mv_X10_message ml_L_18 (xO.1 100 _ rfl).1 rfl rfl rfl (Nat.le_of_ble_eq_true rfl) (hrm (rm := { frames := 0, cells := 0, slots := 0, locals := 0 }) hZ ⟨Nat.le_of_ble_eq_true rfl, Nat.le_of_ble_eq_true rfl⟩) (hcs hZ ⟨by show cl + 0 ≤ 600000; omega, by show sl + 0 ≤ 7302250; omega⟩) dL_law_195 (fun v G' hp => ?_)
  obtain ⟨rfl, rfl⟩ := hp
  show hX z (cl + 0) (sl + 0) (T, I, L, R, A) [(3, .int (nI 0)), (2, .ref (A 63)), (1, .ref (A 100)), (0, .ref b)] 198 [.int (-2)]
  refine x_aload_n C dL_law_198 1 rfl rfl ?_
  refine x_aload_n C dL_law_199 3 rfl rfl ?_
  refine x_iload_n C dL_law_200 0 rfl rfl ?_
  refine x_iconst (v := nI 1) C dL_law_201 (by decide +kernel) ?_
  refine x_iaddN C dL_law_202 ?_
  refine x_sldN (k := 1) C hS hbl hb0 (by decide) (by decide) dL_law_203 ?_
  refine x_callV C (of_X11_message mO fM (xs 1)) mv_X11_message ml_L_22 mO.1 rfl rfl rfl (Nat.le_of_ble_eq_true rfl) (hrm (rm := { frames := 0, cells := 0, slots := 0, locals := 0 }) hZ ⟨Nat.le_of_ble_eq_true rfl, Nat.le_of_ble_eq_true rfl⟩) (hcs hZ ⟨by show cl + 0 + 0 ≤ 600000; omega, by show sl + 0 + 0 ≤ 7302250; omega⟩) dL_law_204 (fun v G' hp => ?_)
  obtain ⟨rfl, rfl⟩ := hp
  show hX z (cl + 0 + 0) (sl + 0 + 0) (T, I, L, R, A) [(3, .int (nI 0)), (2, .ref (A 63)), (1, .ref (A 100)), (0, .ref b)] 207 [.int (-2), .int (-2)]
  refine x_icmp_eq (tgt := 764) C dL_law_207 (by decide) (fun _ => ?_) (fun c => absurd rfl c)
  exact J _ _ _ _ _ (by omega) (by omega)
set_option maxHeartbeats 4000000 in
set_option maxRecDepth 100000 in
theorem arm_2 {z : hZ} (C : hC z RL code) (hZ : zR z = room_1) {b cl sl : Nat} (hcl : cl ≤ 10000) (hsl : sl ≤ 100000) {xs : Nat → Int32} (hS : va_X b 6 xs (zs z) (zs z).heap) (hbl : b < (zs z).heap.size) (hb0 : b < z0 z) {T : Nat → Option hKd} {I : Nat → Nat → Int32} {L : Nat → Nat → Int64} {R : Nat → Nat → Option Nat} {A : Nat → Nat} (F : frs (z0 z) (zS z) T I L R A) (J : ∀ (c s : Nat) (G : hG) (x1 x2 : Nat), c ≤ 600000 → s ≤ 7302250 → hX z c s G [(3, .int (nI 0)), (2, .ref x2), (1, .ref x1), (0, .ref b)] 764 []) : hX z cl sl (T, I, L, R, A) [(3, .int (nI 0)), (2, .ref (A 63)), (1, .ref (A 100)), (0, .ref b)] 212 [] := by
  obtain ⟨⟨xO, hsa, hst, f⟩, ⟨mO, fM, h4, h5, h13⟩, hcv, hfr⟩ := F
  refine x_aload_n C dL_law_212 2 rfl rfl ?_
  refine x_aload_n C dL_law_213 3 rfl rfl ?_
  refine x_iload_n C dL_law_214 0 rfl rfl ?_
  refine x_iconst (v := nI 1) C dL_law_215 (by decide +kernel) ?_
  refine x_iaddN C dL_law_216 ?_
  refine x_sldN (k := 1) C hS hbl hb0 (by decide) (by decide) dL_law_217 ?_
  refine x_aload_n C dL_law_218 3 rfl rfl ?_
  refine x_iload_n C dL_law_219 0 rfl rfl ?_
  refine x_iconst (v := nI 2) C dL_law_220 (by decide +kernel) ?_
  refine x_iaddN C dL_law_221 ?_
  refine x_sldN (k := 2) C hS hbl hb0 (by decide) (by decide) dL_law_222 ?_
  refine x_callV C (of_X10_token xO hsa f (xs 1) (xs 2)) mv_X10_token ml_L_23 (xO.1 100 _ rfl).1 rfl rfl rfl (Nat.le_of_ble_eq_true rfl) (hrm (rm := { frames := 0, cells := 0, slots := 0, locals := 0 }) hZ ⟨Nat.le_of_ble_eq_true rfl, Nat.le_of_ble_eq_true rfl⟩) (hcs hZ ⟨by show cl + 0 ≤ 600000; omega, by show sl + 0 ≤ 7302250; omega⟩) dL_law_223 (fun v G' hp => ?_)
  obtain ⟨rfl, rfl⟩ := hp
  show hX z (cl + 0) (sl + 0) (T, I, L, R, A) [(3, .int (nI 0)), (2, .ref (A 63)), (1, .ref (A 100)), (0, .ref b)] 226 [.int (-2)]
  refine x_aload_n C dL_law_226 1 rfl rfl ?_
  refine x_aload_n C dL_law_227 3 rfl rfl ?_
  refine x_iload_n C dL_law_228 0 rfl rfl ?_
  refine x_iconst (v := nI 1) C dL_law_229 (by decide +kernel) ?_
  refine x_iaddN C dL_law_230 ?_
  refine x_sldN (k := 1) C hS hbl hb0 (by decide) (by decide) dL_law_231 ?_
  refine x_aload_n C dL_law_232 3 rfl rfl ?_
  refine x_iload_n C dL_law_233 0 rfl rfl ?_
  refine x_iconst (v := nI 2) C dL_law_234 (by decide +kernel) ?_
  refine x_iaddN C dL_law_235 ?_
  refine x_sldN (k := 2) C hS hbl hb0 (by decide) (by decide) dL_law_236 ?_
  refine x_callV C (of_X11_token mO fM (xs 1) (xs 2)) mv_X11_token ml_L_27 mO.1 rfl rfl rfl (Nat.le_of_ble_eq_true rfl) (hrm (rm := { frames := 0, cells := 0, slots := 0, locals := 0 }) hZ ⟨Nat.le_of_ble_eq_true rfl, Nat.le_of_ble_eq_true rfl⟩) (hcs hZ ⟨by show cl + 0 + 0 ≤ 600000; omega, by show sl + 0 + 0 ≤ 7302250; omega⟩) dL_law_237 (fun v G' hp => ?_)
  obtain ⟨rfl, rfl⟩ := hp
  show hX z (cl + 0 + 0) (sl + 0 + 0) (T, I, L, R, A) [(3, .int (nI 0)), (2, .ref (A 63)), (1, .ref (A 100)), (0, .ref b)] 240 [.int (-2), .int (-2)]
  refine x_icmp_eq (tgt := 764) C dL_law_240 (by decide) (fun _ => ?_) (fun c => absurd rfl c)
  exact J _ _ _ _ _ (by omega) (by omega)
set_option maxHeartbeats 4000000 in
set_option maxRecDepth 100000 in
theorem arm_3 {z : hZ} (C : hC z RL code) (hZ : zR z = room_1) {b cl sl : Nat} (hcl : cl ≤ 10000) (hsl : sl ≤ 100000) {xs : Nat → Int32} (hS : va_X b 6 xs (zs z) (zs z).heap) (hbl : b < (zs z).heap.size) (hb0 : b < z0 z) {T : Nat → Option hKd} {I : Nat → Nat → Int32} {L : Nat → Nat → Int64} {R : Nat → Nat → Option Nat} {A : Nat → Nat} (F : frs (z0 z) (zS z) T I L R A) (J : ∀ (c s : Nat) (G : hG) (x1 x2 : Nat), c ≤ 600000 → s ≤ 7302250 → hX z c s G [(3, .int (nI 0)), (2, .ref x2), (1, .ref x1), (0, .ref b)] 764 []) : hX z cl sl (T, I, L, R, A) [(3, .int (nI 0)), (2, .ref (A 63)), (1, .ref (A 100)), (0, .ref b)] 245 [] := by
  obtain ⟨⟨xO, hsa, hst, f⟩, ⟨mO, fM, h4, h5, h13⟩, hcv, hfr⟩ := F
  refine x_aload_n C dL_law_245 2 rfl rfl ?_
  refine x_aload_n C dL_law_246 3 rfl rfl ?_
  refine x_iload_n C dL_law_247 0 rfl rfl ?_
  refine x_iconst (v := nI 1) C dL_law_248 (by decide +kernel) ?_
  refine x_iaddN C dL_law_249 ?_
  refine x_sldN (k := 1) C hS hbl hb0 (by decide) (by decide) dL_law_250 ?_
  refine x_callV C (of_X10_fault xO hsa f (xs 1)) mv_X10_fault ml_L_28 (xO.1 100 _ rfl).1 rfl rfl rfl (Nat.le_of_ble_eq_true rfl) (hrm (rm := { frames := 0, cells := 0, slots := 0, locals := 0 }) hZ ⟨Nat.le_of_ble_eq_true rfl, Nat.le_of_ble_eq_true rfl⟩) (hcs hZ ⟨by show cl + 0 ≤ 600000; omega, by show sl + 0 ≤ 7302250; omega⟩) dL_law_251 (fun v G' hp => ?_)
  obtain ⟨rfl, rfl⟩ := hp
  show hX z (cl + 0) (sl + 0) (T, I, L, R, A) [(3, .int (nI 0)), (2, .ref (A 63)), (1, .ref (A 100)), (0, .ref b)] 254 [.int (-2)]
  refine x_aload_n C dL_law_254 1 rfl rfl ?_
  refine x_aload_n C dL_law_255 3 rfl rfl ?_
  refine x_iload_n C dL_law_256 0 rfl rfl ?_
  refine x_iconst (v := nI 1) C dL_law_257 (by decide +kernel) ?_
  refine x_iaddN C dL_law_258 ?_
  refine x_sldN (k := 1) C hS hbl hb0 (by decide) (by decide) dL_law_259 ?_
  refine x_callV C (of_X11_fault mO fM (xs 1)) mv_X11_fault ml_L_31 mO.1 rfl rfl rfl (Nat.le_of_ble_eq_true rfl) (hrm (rm := { frames := 0, cells := 0, slots := 0, locals := 0 }) hZ ⟨Nat.le_of_ble_eq_true rfl, Nat.le_of_ble_eq_true rfl⟩) (hcs hZ ⟨by show cl + 0 + 0 ≤ 600000; omega, by show sl + 0 + 0 ≤ 7302250; omega⟩) dL_law_260 (fun v G' hp => ?_)
  obtain ⟨rfl, rfl⟩ := hp
  show hX z (cl + 0 + 0) (sl + 0 + 0) (T, I, L, R, A) [(3, .int (nI 0)), (2, .ref (A 63)), (1, .ref (A 100)), (0, .ref b)] 263 [.int (-2), .int (-2)]
  refine x_icmp_eq (tgt := 764) C dL_law_263 (by decide) (fun _ => ?_) (fun c => absurd rfl c)
  exact J _ _ _ _ _ (by omega) (by omega)
set_option maxHeartbeats 4000000 in
set_option maxRecDepth 100000 in
theorem arm_4 {z : hZ} (C : hC z RL code) (hZ : zR z = room_1) {b cl sl : Nat} (hcl : cl ≤ 10000) (hsl : sl ≤ 100000) {xs : Nat → Int32} (hS : va_X b 6 xs (zs z) (zs z).heap) (hbl : b < (zs z).heap.size) (hb0 : b < z0 z) {T : Nat → Option hKd} {I : Nat → Nat → Int32} {L : Nat → Nat → Int64} {R : Nat → Nat → Option Nat} {A : Nat → Nat} (F : frs (z0 z) (zS z) T I L R A) (J : ∀ (c s : Nat) (G : hG) (x1 x2 : Nat), c ≤ 600000 → s ≤ 7302250 → hX z c s G [(3, .int (nI 0)), (2, .ref x2), (1, .ref x1), (0, .ref b)] 764 []) : hX z cl sl (T, I, L, R, A) [(3, .int (nI 0)), (2, .ref (A 63)), (1, .ref (A 100)), (0, .ref b)] 268 [] := by
  obtain ⟨⟨xO, hsa, hst, f⟩, ⟨mO, fM, h4, h5, h13⟩, hcv, hfr⟩ := F
  refine x_aload_n C dL_law_268 2 rfl rfl ?_
  refine x_aload_n C dL_law_269 3 rfl rfl ?_
  refine x_iload_n C dL_law_270 0 rfl rfl ?_
  refine x_iconst (v := nI 1) C dL_law_271 (by decide +kernel) ?_
  refine x_iaddN C dL_law_272 ?_
  refine x_sldN (k := 1) C hS hbl hb0 (by decide) (by decide) dL_law_273 ?_
  refine x_aload_n C dL_law_274 3 rfl rfl ?_
  refine x_iload_n C dL_law_275 0 rfl rfl ?_
  refine x_iconst (v := nI 2) C dL_law_276 (by decide +kernel) ?_
  refine x_iaddN C dL_law_277 ?_
  refine x_sldN (k := 2) C hS hbl hb0 (by decide) (by decide) dL_law_278 ?_
  refine x_callV C (of_X10_told xO hsa f (xs 1) (xs 2)) mv_X10_told ml_L_32 (xO.1 100 _ rfl).1 rfl rfl rfl (Nat.le_of_ble_eq_true rfl) (hrm (rm := { frames := 0, cells := 0, slots := 0, locals := 0 }) hZ ⟨Nat.le_of_ble_eq_true rfl, Nat.le_of_ble_eq_true rfl⟩) (hcs hZ ⟨by show cl + 0 ≤ 600000; omega, by show sl + 0 ≤ 7302250; omega⟩) dL_law_279 (fun v G' hp => ?_)
  obtain ⟨rfl, rfl⟩ := hp
  show hX z (cl + 0) (sl + 0) (T, I, L, R, A) [(3, .int (nI 0)), (2, .ref (A 63)), (1, .ref (A 100)), (0, .ref b)] 282 [.int (-2)]
  refine x_aload_n C dL_law_282 1 rfl rfl ?_
  refine x_aload_n C dL_law_283 3 rfl rfl ?_
  refine x_iload_n C dL_law_284 0 rfl rfl ?_
  refine x_iconst (v := nI 1) C dL_law_285 (by decide +kernel) ?_
  refine x_iaddN C dL_law_286 ?_
  refine x_sldN (k := 1) C hS hbl hb0 (by decide) (by decide) dL_law_287 ?_
  refine x_aload_n C dL_law_288 3 rfl rfl ?_
  refine x_iload_n C dL_law_289 0 rfl rfl ?_
  refine x_iconst (v := nI 2) C dL_law_290 (by decide +kernel) ?_
  refine x_iaddN C dL_law_291 ?_
  refine x_sldN (k := 2) C hS hbl hb0 (by decide) (by decide) dL_law_292 ?_
  refine x_callV C (of_X11_told mO fM (xs 1) (xs 2)) mv_X11_told ml_L_35 mO.1 rfl rfl rfl (Nat.le_of_ble_eq_true rfl) (hrm (rm := { frames := 0, cells := 0, slots := 0, locals := 0 }) hZ ⟨Nat.le_of_ble_eq_true rfl, Nat.le_of_ble_eq_true rfl⟩) (hcs hZ ⟨by show cl + 0 + 0 ≤ 600000; omega, by show sl + 0 + 0 ≤ 7302250; omega⟩) dL_law_293 (fun v G' hp => ?_)
  obtain ⟨rfl, rfl⟩ := hp
  show hX z (cl + 0 + 0) (sl + 0 + 0) (T, I, L, R, A) [(3, .int (nI 0)), (2, .ref (A 63)), (1, .ref (A 100)), (0, .ref b)] 296 [.int (-2), .int (-2)]
  refine x_icmp_eq (tgt := 764) C dL_law_296 (by decide) (fun _ => ?_) (fun c => absurd rfl c)
  exact J _ _ _ _ _ (by omega) (by omega)
set_option maxHeartbeats 4000000 in
set_option maxRecDepth 100000 in
theorem arm_5 {z : hZ} (C : hC z RL code) (hZ : zR z = room_1) {b cl sl : Nat} (hcl : cl ≤ 10000) (hsl : sl ≤ 100000) {xs : Nat → Int32} (hS : va_X b 6 xs (zs z) (zs z).heap) (hbl : b < (zs z).heap.size) (hb0 : b < z0 z) {T : Nat → Option hKd} {I : Nat → Nat → Int32} {L : Nat → Nat → Int64} {R : Nat → Nat → Option Nat} {A : Nat → Nat} (F : frs (z0 z) (zS z) T I L R A) (J : ∀ (c s : Nat) (G : hG) (x1 x2 : Nat), c ≤ 600000 → s ≤ 7302250 → hX z c s G [(3, .int (nI 0)), (2, .ref x2), (1, .ref x1), (0, .ref b)] 764 []) : hX z cl sl (T, I, L, R, A) [(3, .int (nI 0)), (2, .ref (A 63)), (1, .ref (A 100)), (0, .ref b)] 301 [] := by
  obtain ⟨⟨xO, hsa, hst, f⟩, ⟨mO, fM, h4, h5, h13⟩, hcv, hfr⟩ := F
  refine x_aload_n C dL_law_301 2 rfl rfl ?_
  refine x_aload_n C dL_law_302 3 rfl rfl ?_
  refine x_iload_n C dL_law_303 0 rfl rfl ?_
  refine x_iconst (v := nI 1) C dL_law_304 (by decide +kernel) ?_
  refine x_iaddN C dL_law_305 ?_
  refine x_sldN (k := 1) C hS hbl hb0 (by decide) (by decide) dL_law_306 ?_
  refine x_aload_n C dL_law_307 3 rfl rfl ?_
  refine x_iload_n C dL_law_308 0 rfl rfl ?_
  refine x_iconst (v := nI 2) C dL_law_309 (by decide +kernel) ?_
  refine x_iaddN C dL_law_310 ?_
  refine x_sldN (k := 2) C hS hbl hb0 (by decide) (by decide) dL_law_311 ?_
  refine x_aload_n C dL_law_312 3 rfl rfl ?_
  refine x_iload_n C dL_law_313 0 rfl rfl ?_
  refine x_iconst (v := nI 3) C dL_law_314 (by decide +kernel) ?_
  refine x_iaddN C dL_law_315 ?_
  refine x_sldN (k := 3) C hS hbl hb0 (by decide) (by decide) dL_law_316 ?_
  refine x_aload_n C dL_law_317 3 rfl rfl ?_
  refine x_iload_n C dL_law_318 0 rfl rfl ?_
  refine x_iconst (v := nI 4) C dL_law_319 (by decide +kernel) ?_
  refine x_iaddN C dL_law_320 ?_
  refine x_sldN (k := 4) C hS hbl hb0 (by decide) (by decide) dL_law_321 ?_
  refine x_aload_n C dL_law_322 3 rfl rfl ?_
  refine x_iload_n C dL_law_323 0 rfl rfl ?_
  refine x_iconst (v := nI 5) C dL_law_324 (by decide +kernel) ?_
  refine x_iaddN C dL_law_325 ?_
  refine x_sldN (k := 5) C hS hbl hb0 (by decide) (by decide) dL_law_326 ?_
  refine x_callV C (of_X10_side xO hsa f (xs 1) (xs 2) (xs 3) (xs 4) (xs 5)) mv_X10_side ml_L_36 (xO.1 100 _ rfl).1 rfl rfl rfl (Nat.le_of_ble_eq_true rfl) (hrm (rm := { frames := 0, cells := 0, slots := 0, locals := 0 }) hZ ⟨Nat.le_of_ble_eq_true rfl, Nat.le_of_ble_eq_true rfl⟩) (hcs hZ ⟨by show cl + 0 ≤ 600000; omega, by show sl + 0 ≤ 7302250; omega⟩) dL_law_327 (fun v G' hp => ?_)
  obtain ⟨rfl, rfl⟩ := hp
  show hX z (cl + 0) (sl + 0) (T, I, L, R, A) [(3, .int (nI 0)), (2, .ref (A 63)), (1, .ref (A 100)), (0, .ref b)] 330 [.int (-2)]
  refine x_aload_n C dL_law_330 1 rfl rfl ?_
  refine x_aload_n C dL_law_331 3 rfl rfl ?_
  refine x_iload_n C dL_law_332 0 rfl rfl ?_
  refine x_iconst (v := nI 1) C dL_law_333 (by decide +kernel) ?_
  refine x_iaddN C dL_law_334 ?_
  refine x_sldN (k := 1) C hS hbl hb0 (by decide) (by decide) dL_law_335 ?_
  refine x_aload_n C dL_law_336 3 rfl rfl ?_
  refine x_iload_n C dL_law_337 0 rfl rfl ?_
  refine x_iconst (v := nI 2) C dL_law_338 (by decide +kernel) ?_
  refine x_iaddN C dL_law_339 ?_
  refine x_sldN (k := 2) C hS hbl hb0 (by decide) (by decide) dL_law_340 ?_
  refine x_aload_n C dL_law_341 3 rfl rfl ?_
  refine x_iload_n C dL_law_342 0 rfl rfl ?_
  refine x_iconst (v := nI 3) C dL_law_343 (by decide +kernel) ?_
  refine x_iaddN C dL_law_344 ?_
  refine x_sldN (k := 3) C hS hbl hb0 (by decide) (by decide) dL_law_345 ?_
  refine x_aload_n C dL_law_346 3 rfl rfl ?_
  refine x_iload_n C dL_law_347 0 rfl rfl ?_
  refine x_iconst (v := nI 4) C dL_law_348 (by decide +kernel) ?_
  refine x_iaddN C dL_law_349 ?_
  refine x_sldN (k := 4) C hS hbl hb0 (by decide) (by decide) dL_law_350 ?_
  refine x_aload_n C dL_law_351 3 rfl rfl ?_
  refine x_iload_n C dL_law_352 0 rfl rfl ?_
  refine x_iconst (v := nI 5) C dL_law_353 (by decide +kernel) ?_
  refine x_iaddN C dL_law_354 ?_
  refine x_sldN (k := 5) C hS hbl hb0 (by decide) (by decide) dL_law_355 ?_
  refine x_callV C (of_X11_side mO fM (xs 1) (xs 2) (xs 3) (xs 4) (xs 5)) mv_X11_side ml_L_40 mO.1 rfl rfl rfl (Nat.le_of_ble_eq_true rfl) (hrm (rm := { frames := 0, cells := 0, slots := 0, locals := 0 }) hZ ⟨Nat.le_of_ble_eq_true rfl, Nat.le_of_ble_eq_true rfl⟩) (hcs hZ ⟨by show cl + 0 + 0 ≤ 600000; omega, by show sl + 0 + 0 ≤ 7302250; omega⟩) dL_law_356 (fun v G' hp => ?_)
  obtain ⟨rfl, rfl⟩ := hp
  show hX z (cl + 0 + 0) (sl + 0 + 0) (T, I, L, R, A) [(3, .int (nI 0)), (2, .ref (A 63)), (1, .ref (A 100)), (0, .ref b)] 359 [.int (-2), .int (-2)]
  refine x_icmp_eq (tgt := 764) C dL_law_359 (by decide) (fun _ => ?_) (fun c => absurd rfl c)
  exact J _ _ _ _ _ (by omega) (by omega)
set_option maxHeartbeats 4000000 in
set_option maxRecDepth 100000 in
theorem arm_6 {z : hZ} (C : hC z RL code) (hZ : zR z = room_1) {b cl sl : Nat} (hcl : cl ≤ 10000) (hsl : sl ≤ 100000) {xs : Nat → Int32} (hS : va_X b 6 xs (zs z) (zs z).heap) (hbl : b < (zs z).heap.size) (hb0 : b < z0 z) {T : Nat → Option hKd} {I : Nat → Nat → Int32} {L : Nat → Nat → Int64} {R : Nat → Nat → Option Nat} {A : Nat → Nat} (F : frs (z0 z) (zS z) T I L R A) (J : ∀ (c s : Nat) (G : hG) (x1 x2 : Nat), c ≤ 600000 → s ≤ 7302250 → hX z c s G [(3, .int (nI 0)), (2, .ref x2), (1, .ref x1), (0, .ref b)] 764 []) : hX z cl sl (T, I, L, R, A) [(3, .int (nI 0)), (2, .ref (A 63)), (1, .ref (A 100)), (0, .ref b)] 364 [] := by
  obtain ⟨⟨xO, hsa, hst, f⟩, ⟨mO, fM, h4, h5, h13⟩, hcv, hfr⟩ := F
  refine x_aload_n C dL_law_364 2 rfl rfl ?_
  refine x_aload_n C dL_law_365 3 rfl rfl ?_
  refine x_iload_n C dL_law_366 0 rfl rfl ?_
  refine x_iconst (v := nI 1) C dL_law_367 (by decide +kernel) ?_
  refine x_iaddN C dL_law_368 ?_
  refine x_sldN (k := 1) C hS hbl hb0 (by decide) (by decide) dL_law_369 ?_
  refine x_callV C (of_X10_again xO hsa f (xs 1)) mv_X10_again ml_L_41 (xO.1 100 _ rfl).1 rfl rfl rfl (Nat.le_of_ble_eq_true rfl) (hrm (rm := { frames := 0, cells := 0, slots := 0, locals := 0 }) hZ ⟨Nat.le_of_ble_eq_true rfl, Nat.le_of_ble_eq_true rfl⟩) (hcs hZ ⟨by show cl + 0 ≤ 600000; omega, by show sl + 0 ≤ 7302250; omega⟩) dL_law_370 (fun v G' hp => ?_)
  obtain ⟨rfl, rfl⟩ := hp
  show hX z (cl + 0) (sl + 0) (T, I, L, R, A) [(3, .int (nI 0)), (2, .ref (A 63)), (1, .ref (A 100)), (0, .ref b)] 373 [.int (-2)]
  refine x_aload_n C dL_law_373 1 rfl rfl ?_
  refine x_aload_n C dL_law_374 3 rfl rfl ?_
  refine x_iload_n C dL_law_375 0 rfl rfl ?_
  refine x_iconst (v := nI 1) C dL_law_376 (by decide +kernel) ?_
  refine x_iaddN C dL_law_377 ?_
  refine x_sldN (k := 1) C hS hbl hb0 (by decide) (by decide) dL_law_378 ?_
  refine x_callV C (of_X11_again mO fM (xs 1)) mv_X11_again ml_L_44 mO.1 rfl rfl rfl (Nat.le_of_ble_eq_true rfl) (hrm (rm := { frames := 0, cells := 0, slots := 0, locals := 0 }) hZ ⟨Nat.le_of_ble_eq_true rfl, Nat.le_of_ble_eq_true rfl⟩) (hcs hZ ⟨by show cl + 0 + 0 ≤ 600000; omega, by show sl + 0 + 0 ≤ 7302250; omega⟩) dL_law_379 (fun v G' hp => ?_)
  obtain ⟨rfl, rfl⟩ := hp
  show hX z (cl + 0 + 0) (sl + 0 + 0) (T, I, L, R, A) [(3, .int (nI 0)), (2, .ref (A 63)), (1, .ref (A 100)), (0, .ref b)] 382 [.int (-2), .int (-2)]
  refine x_icmp_eq (tgt := 764) C dL_law_382 (by decide) (fun _ => ?_) (fun c => absurd rfl c)
  exact J _ _ _ _ _ (by omega) (by omega)
set_option maxHeartbeats 4000000 in
set_option maxRecDepth 100000 in
theorem arm_7 {z : hZ} (C : hC z RL code) (hZ : zR z = room_1) {b cl sl : Nat} (hcl : cl ≤ 10000) (hsl : sl ≤ 100000) {xs : Nat → Int32} (hS : va_X b 6 xs (zs z) (zs z).heap) (hbl : b < (zs z).heap.size) (hb0 : b < z0 z) {T : Nat → Option hKd} {I : Nat → Nat → Int32} {L : Nat → Nat → Int64} {R : Nat → Nat → Option Nat} {A : Nat → Nat} (F : frs (z0 z) (zS z) T I L R A) (J : ∀ (c s : Nat) (G : hG) (x1 x2 : Nat), c ≤ 600000 → s ≤ 7302250 → hX z c s G [(3, .int (nI 0)), (2, .ref x2), (1, .ref x1), (0, .ref b)] 764 []) : hX z cl sl (T, I, L, R, A) [(3, .int (nI 0)), (2, .ref (A 63)), (1, .ref (A 100)), (0, .ref b)] 387 [] := by
  obtain ⟨⟨xO, hsa, hst, f⟩, ⟨mO, fM, h4, h5, h13⟩, hcv, hfr⟩ := F
  refine x_aload_n C dL_law_387 2 rfl rfl ?_
  refine x_aload_n C dL_law_388 3 rfl rfl ?_
  refine x_iload_n C dL_law_389 0 rfl rfl ?_
  refine x_iconst (v := nI 1) C dL_law_390 (by decide +kernel) ?_
  refine x_iaddN C dL_law_391 ?_
  refine x_sldN (k := 1) C hS hbl hb0 (by decide) (by decide) dL_law_392 ?_
  refine x_i2l C dL_law_393 ?_
  refine x_bipush (v := nI 32) C dL_law_394 (by decide +kernel) ?_
  refine x_lshl C dL_law_396 ?_
  refine x_aload_n C dL_law_397 3 rfl rfl ?_
  refine x_iload_n C dL_law_398 0 rfl rfl ?_
  refine x_iconst (v := nI 2) C dL_law_399 (by decide +kernel) ?_
  refine x_iaddN C dL_law_400 ?_
  refine x_sldN (k := 2) C hS hbl hb0 (by decide) (by decide) dL_law_401 ?_
  refine x_i2l C dL_law_402 ?_
  refine x_ldc2 C dL_law_403 kc_L_45 ?_
  refine x_land C dL_law_406 ?_
  refine x_lor C dL_law_407 ?_
  refine x_aload_n C dL_law_408 3 rfl rfl ?_
  refine x_iload_n C dL_law_409 0 rfl rfl ?_
  refine x_iconst (v := nI 3) C dL_law_410 (by decide +kernel) ?_
  refine x_iaddN C dL_law_411 ?_
  refine x_sldN (k := 3) C hS hbl hb0 (by decide) (by decide) dL_law_412 ?_
  refine x_callV C (ok_X10_feed xO hsa 0 (by decide) f.2.2.1 ((lsl (Int32.toInt64 (xs 1)) (nI 32)) ||| ((Int32.toInt64 (xs 2)) &&& 4294967295)) (xs 3)) mv_X10_feed ml_L_47 (xO.1 100 _ rfl).1 rfl rfl rfl (Nat.le_of_ble_eq_true rfl) (hrm (rm := { frames := 0, cells := 0, slots := 0, locals := 0 }) hZ ⟨Nat.le_of_ble_eq_true rfl, Nat.le_of_ble_eq_true rfl⟩) (hcs hZ ⟨by show cl + 0 ≤ 600000; omega, by show sl + 0 ≤ 7302250; omega⟩) dL_law_413 (fun v G' hp => ?_)
  rcases hp with ⟨hn, rfl, rfl⟩ | ⟨k, k1, k8, hn, ⟨hk, rfl, rfl⟩ | ⟨hk, rfl, K, rfl, i1, i2, i3⟩⟩
  · show hX z (cl + 0) (sl + 0) (T, I, L, R, A) [(3, .int (nI 0)), (2, .ref (A 63)), (1, .ref (A 100)), (0, .ref b)] 416 [.int (-2)]
    refine x_aload_n C dL_law_416 1 rfl rfl ?_
    refine x_aload_n C dL_law_417 3 rfl rfl ?_
    refine x_iload_n C dL_law_418 0 rfl rfl ?_
    refine x_iconst (v := nI 1) C dL_law_419 (by decide +kernel) ?_
    refine x_iaddN C dL_law_420 ?_
    refine x_sldN (k := 1) C hS hbl hb0 (by decide) (by decide) dL_law_421 ?_
    refine x_i2l C dL_law_422 ?_
    refine x_bipush (v := nI 32) C dL_law_423 (by decide +kernel) ?_
    refine x_lshl C dL_law_425 ?_
    refine x_aload_n C dL_law_426 3 rfl rfl ?_
    refine x_iload_n C dL_law_427 0 rfl rfl ?_
    refine x_iconst (v := nI 2) C dL_law_428 (by decide +kernel) ?_
    refine x_iaddN C dL_law_429 ?_
    refine x_sldN (k := 2) C hS hbl hb0 (by decide) (by decide) dL_law_430 ?_
    refine x_i2l C dL_law_431 ?_
    refine x_ldc2 C dL_law_432 kc_L_45 ?_
    refine x_land C dL_law_435 ?_
    refine x_lor C dL_law_436 ?_
    refine x_aload_n C dL_law_437 3 rfl rfl ?_
    refine x_iload_n C dL_law_438 0 rfl rfl ?_
    refine x_iconst (v := nI 3) C dL_law_439 (by decide +kernel) ?_
    refine x_iaddN C dL_law_440 ?_
    refine x_sldN (k := 3) C hS hbl hb0 (by decide) (by decide) dL_law_441 ?_
    refine x_callV C (ok_X11_feed mO 0 (by decide) fM.2.2.1 ((lsl (Int32.toInt64 (xs 1)) (nI 32)) ||| ((Int32.toInt64 (xs 2)) &&& 4294967295)) (xs 3)) mv_X11_feed ml_L_51 mO.1 rfl rfl rfl (Nat.le_of_ble_eq_true rfl) (hrm (rm := { frames := 0, cells := 0, slots := 0, locals := 0 }) hZ ⟨Nat.le_of_ble_eq_true rfl, Nat.le_of_ble_eq_true rfl⟩) (hcs hZ ⟨by show cl + 0 + 0 ≤ 600000; omega, by show sl + 0 + 0 ≤ 7302250; omega⟩) dL_law_442 (fun v G' hp => ?_)
    rcases hp with ⟨-, rfl, rfl⟩ | ⟨k, k1, k8, hn', -⟩
    · show hX z (cl + 0 + 0) (sl + 0 + 0) (T, I, L, R, A) [(3, .int (nI 0)), (2, .ref (A 63)), (1, .ref (A 100)), (0, .ref b)] 445 [.int (-2), .int (-2)]
      refine x_icmp_eq (tgt := 764) C dL_law_445 (by decide) (fun _ => ?_) (fun c => absurd rfl c)
      exact J _ _ _ _ _ (by omega) (by omega)
    · exact (fd_x hn k1 k8 hn').elim
  · exfalso; omega
  · show hX z (cl + 0) (sl + 0) (T, K, L, R, A) [(3, .int (nI 0)), (2, .ref (A 63)), (1, .ref (A 100)), (0, .ref b)] 416 [.int (nI (0 + k))]
    refine x_aload_n C dL_law_416 1 rfl rfl ?_
    refine x_aload_n C dL_law_417 3 rfl rfl ?_
    refine x_iload_n C dL_law_418 0 rfl rfl ?_
    refine x_iconst (v := nI 1) C dL_law_419 (by decide +kernel) ?_
    refine x_iaddN C dL_law_420 ?_
    refine x_sldN (k := 1) C hS hbl hb0 (by decide) (by decide) dL_law_421 ?_
    refine x_i2l C dL_law_422 ?_
    refine x_bipush (v := nI 32) C dL_law_423 (by decide +kernel) ?_
    refine x_lshl C dL_law_425 ?_
    refine x_aload_n C dL_law_426 3 rfl rfl ?_
    refine x_iload_n C dL_law_427 0 rfl rfl ?_
    refine x_iconst (v := nI 2) C dL_law_428 (by decide +kernel) ?_
    refine x_iaddN C dL_law_429 ?_
    refine x_sldN (k := 2) C hS hbl hb0 (by decide) (by decide) dL_law_430 ?_
    refine x_i2l C dL_law_431 ?_
    refine x_ldc2 C dL_law_432 kc_L_45 ?_
    refine x_land C dL_law_435 ?_
    refine x_lor C dL_law_436 ?_
    refine x_aload_n C dL_law_437 3 rfl rfl ?_
    refine x_iload_n C dL_law_438 0 rfl rfl ?_
    refine x_iconst (v := nI 3) C dL_law_439 (by decide +kernel) ?_
    refine x_iaddN C dL_law_440 ?_
    refine x_sldN (k := 3) C hS hbl hb0 (by decide) (by decide) dL_law_441 ?_
    refine x_callV C (ok_X11_feed mO 0 (by decide) (frM.of (i3 63 (by decide)) fM).2.2.1 ((lsl (Int32.toInt64 (xs 1)) (nI 32)) ||| ((Int32.toInt64 (xs 2)) &&& 4294967295)) (xs 3)) mv_X11_feed ml_L_51 mO.1 rfl rfl rfl (Nat.le_of_ble_eq_true rfl) (hrm (rm := { frames := 0, cells := 0, slots := 0, locals := 0 }) hZ ⟨Nat.le_of_ble_eq_true rfl, Nat.le_of_ble_eq_true rfl⟩) (hcs hZ ⟨by show cl + 0 + 0 ≤ 600000; omega, by show sl + 0 + 0 ≤ 7302250; omega⟩) dL_law_442 (fun v G' hp => ?_)
    rcases hp with ⟨hn', -, -⟩ | ⟨k', k1', k8', hn', ⟨hk', -, -⟩ | ⟨hk', rfl, K', rfl, -⟩⟩
    · exact (fd_x hn' k1 k8 hn).elim
    · exfalso; omega
    · have ek : k' = k := (nI_eq (by omega) (by omega)).mp (hn'.symm.trans hn)
      subst ek
      show hX z (cl + 0 + 0) (sl + 0 + 0) (T, K', L, R, A) [(3, .int (nI 0)), (2, .ref (A 63)), (1, .ref (A 100)), (0, .ref b)] 445 [.int (nI (0 + k')), .int (nI (0 + k'))]
      refine x_icmp_eq (tgt := 764) C dL_law_445 (by decide) (fun _ => ?_) (fun c => absurd rfl c)
      exact J _ _ _ _ _ (by omega) (by omega)
set_option maxHeartbeats 4000000 in
set_option maxRecDepth 100000 in
theorem arm_8 {z : hZ} (C : hC z RL code) (hZ : zR z = room_1) {b cl sl : Nat} (hcl : cl ≤ 10000) (hsl : sl ≤ 100000) {xs : Nat → Int32} (hS : va_X b 6 xs (zs z) (zs z).heap) (hbl : b < (zs z).heap.size) (hb0 : b < z0 z) {T : Nat → Option hKd} {I : Nat → Nat → Int32} {L : Nat → Nat → Int64} {R : Nat → Nat → Option Nat} {A : Nat → Nat} (F : frs (z0 z) (zS z) T I L R A) (J : ∀ (c s : Nat) (G : hG) (x1 x2 : Nat), c ≤ 600000 → s ≤ 7302250 → hX z c s G [(3, .int (nI 0)), (2, .ref x2), (1, .ref x1), (0, .ref b)] 764 []) : hX z cl sl (T, I, L, R, A) [(3, .int (nI 0)), (2, .ref (A 63)), (1, .ref (A 100)), (0, .ref b)] 450 [] := by
  obtain ⟨⟨xO, hsa, hst, f⟩, ⟨mO, fM, h4, h5, h13⟩, hcv, hfr⟩ := F
  refine x_aload_n C dL_law_450 2 rfl rfl ?_
  refine x_aload_n C dL_law_451 3 rfl rfl ?_
  refine x_iload_n C dL_law_452 0 rfl rfl ?_
  refine x_iconst (v := nI 1) C dL_law_453 (by decide +kernel) ?_
  refine x_iaddN C dL_law_454 ?_
  refine x_sldN (k := 1) C hS hbl hb0 (by decide) (by decide) dL_law_455 ?_
  refine x_callV C (of_X10_write xO hsa f (xs 1)) mv_X10_write ml_L_52 (xO.1 100 _ rfl).1 rfl rfl rfl (Nat.le_of_ble_eq_true rfl) (hrm (rm := { frames := 0, cells := 0, slots := 0, locals := 0 }) hZ ⟨Nat.le_of_ble_eq_true rfl, Nat.le_of_ble_eq_true rfl⟩) (hcs hZ ⟨by show cl + 0 ≤ 600000; omega, by show sl + 0 ≤ 7302250; omega⟩) dL_law_456 (fun v G' hp => ?_)
  obtain ⟨rfl, rfl⟩ := hp
  show hX z (cl + 0) (sl + 0) (T, I, L, R, A) [(3, .int (nI 0)), (2, .ref (A 63)), (1, .ref (A 100)), (0, .ref b)] 459 [.int (-2)]
  refine x_aload_n C dL_law_459 1 rfl rfl ?_
  refine x_aload_n C dL_law_460 3 rfl rfl ?_
  refine x_iload_n C dL_law_461 0 rfl rfl ?_
  refine x_iconst (v := nI 1) C dL_law_462 (by decide +kernel) ?_
  refine x_iaddN C dL_law_463 ?_
  refine x_sldN (k := 1) C hS hbl hb0 (by decide) (by decide) dL_law_464 ?_
  refine x_callV C (of_X11_write mO fM (xs 1)) mv_X11_write ml_L_55 mO.1 rfl rfl rfl (Nat.le_of_ble_eq_true rfl) (hrm (rm := { frames := 0, cells := 0, slots := 0, locals := 0 }) hZ ⟨Nat.le_of_ble_eq_true rfl, Nat.le_of_ble_eq_true rfl⟩) (hcs hZ ⟨by show cl + 0 + 0 ≤ 600000; omega, by show sl + 0 + 0 ≤ 7302250; omega⟩) dL_law_465 (fun v G' hp => ?_)
  obtain ⟨rfl, rfl⟩ := hp
  show hX z (cl + 0 + 0) (sl + 0 + 0) (T, I, L, R, A) [(3, .int (nI 0)), (2, .ref (A 63)), (1, .ref (A 100)), (0, .ref b)] 468 [.int (-2), .int (-2)]
  refine x_icmp_eq (tgt := 764) C dL_law_468 (by decide) (fun _ => ?_) (fun c => absurd rfl c)
  exact J _ _ _ _ _ (by omega) (by omega)
set_option maxHeartbeats 4000000 in
set_option maxRecDepth 100000 in
theorem arm_9 {z : hZ} (C : hC z RL code) (hZ : zR z = room_1) {b cl sl : Nat} (hcl : cl ≤ 10000) (hsl : sl ≤ 100000) {xs : Nat → Int32} (hS : va_X b 6 xs (zs z) (zs z).heap) (hbl : b < (zs z).heap.size) (hb0 : b < z0 z) {T : Nat → Option hKd} {I : Nat → Nat → Int32} {L : Nat → Nat → Int64} {R : Nat → Nat → Option Nat} {A : Nat → Nat} (F : frs (z0 z) (zS z) T I L R A) (J : ∀ (c s : Nat) (G : hG) (x1 x2 : Nat), c ≤ 600000 → s ≤ 7302250 → hX z c s G [(3, .int (nI 0)), (2, .ref x2), (1, .ref x1), (0, .ref b)] 764 []) : hX z cl sl (T, I, L, R, A) [(3, .int (nI 0)), (2, .ref (A 63)), (1, .ref (A 100)), (0, .ref b)] 473 [] := by
  obtain ⟨⟨xO, hsa, hst, f⟩, ⟨mO, fM, h4, h5, h13⟩, hcv, hfr⟩ := F
  refine x_aload_n C dL_law_473 2 rfl rfl ?_
  refine x_aload_n C dL_law_474 3 rfl rfl ?_
  refine x_iload_n C dL_law_475 0 rfl rfl ?_
  refine x_iconst (v := nI 1) C dL_law_476 (by decide +kernel) ?_
  refine x_iaddN C dL_law_477 ?_
  refine x_sldN (k := 1) C hS hbl hb0 (by decide) (by decide) dL_law_478 ?_
  refine x_callV C (of_X10_read xO hsa f (xs 1)) mv_X10_read ml_L_56 (xO.1 100 _ rfl).1 rfl rfl rfl (Nat.le_of_ble_eq_true rfl) (hrm (rm := { frames := 0, cells := 0, slots := 0, locals := 0 }) hZ ⟨Nat.le_of_ble_eq_true rfl, Nat.le_of_ble_eq_true rfl⟩) (hcs hZ ⟨by show cl + 0 ≤ 600000; omega, by show sl + 0 ≤ 7302250; omega⟩) dL_law_479 (fun v G' hp => ?_)
  obtain ⟨rfl, rfl⟩ := hp
  show hX z (cl + 0) (sl + 0) (T, I, L, R, A) [(3, .int (nI 0)), (2, .ref (A 63)), (1, .ref (A 100)), (0, .ref b)] 482 [.int (-2)]
  refine x_aload_n C dL_law_482 1 rfl rfl ?_
  refine x_aload_n C dL_law_483 3 rfl rfl ?_
  refine x_iload_n C dL_law_484 0 rfl rfl ?_
  refine x_iconst (v := nI 1) C dL_law_485 (by decide +kernel) ?_
  refine x_iaddN C dL_law_486 ?_
  refine x_sldN (k := 1) C hS hbl hb0 (by decide) (by decide) dL_law_487 ?_
  refine x_callV C (of_X11_read mO fM (xs 1)) mv_X11_read ml_L_59 mO.1 rfl rfl rfl (Nat.le_of_ble_eq_true rfl) (hrm (rm := { frames := 0, cells := 0, slots := 0, locals := 0 }) hZ ⟨Nat.le_of_ble_eq_true rfl, Nat.le_of_ble_eq_true rfl⟩) (hcs hZ ⟨by show cl + 0 + 0 ≤ 600000; omega, by show sl + 0 + 0 ≤ 7302250; omega⟩) dL_law_488 (fun v G' hp => ?_)
  obtain ⟨rfl, rfl⟩ := hp
  show hX z (cl + 0 + 0) (sl + 0 + 0) (T, I, L, R, A) [(3, .int (nI 0)), (2, .ref (A 63)), (1, .ref (A 100)), (0, .ref b)] 491 [.int (-2), .int (-2)]
  refine x_icmp_eq (tgt := 764) C dL_law_491 (by decide) (fun _ => ?_) (fun c => absurd rfl c)
  exact J _ _ _ _ _ (by omega) (by omega)
set_option maxHeartbeats 4000000 in
set_option maxRecDepth 100000 in
theorem arm_10 {z : hZ} (C : hC z RL code) (hZ : zR z = room_1) {b cl sl : Nat} (hcl : cl ≤ 10000) (hsl : sl ≤ 100000) {xs : Nat → Int32} (hS : va_X b 6 xs (zs z) (zs z).heap) (hbl : b < (zs z).heap.size) (hb0 : b < z0 z) {T : Nat → Option hKd} {I : Nat → Nat → Int32} {L : Nat → Nat → Int64} {R : Nat → Nat → Option Nat} {A : Nat → Nat} (F : frs (z0 z) (zS z) T I L R A) (J : ∀ (c s : Nat) (G : hG) (x1 x2 : Nat), c ≤ 600000 → s ≤ 7302250 → hX z c s G [(3, .int (nI 0)), (2, .ref x2), (1, .ref x1), (0, .ref b)] 764 []) : hX z cl sl (T, I, L, R, A) [(3, .int (nI 0)), (2, .ref (A 63)), (1, .ref (A 100)), (0, .ref b)] 496 [] := by
  obtain ⟨⟨xO, hsa, hst, f⟩, ⟨mO, fM, h4, h5, h13⟩, hcv, hfr⟩ := F
  refine x_aload_n C dL_law_496 2 rfl rfl ?_
  refine x_aload_n C dL_law_497 3 rfl rfl ?_
  refine x_iload_n C dL_law_498 0 rfl rfl ?_
  refine x_iconst (v := nI 1) C dL_law_499 (by decide +kernel) ?_
  refine x_iaddN C dL_law_500 ?_
  refine x_sldN (k := 1) C hS hbl hb0 (by decide) (by decide) dL_law_501 ?_
  refine x_aload_n C dL_law_502 3 rfl rfl ?_
  refine x_iload_n C dL_law_503 0 rfl rfl ?_
  refine x_iconst (v := nI 2) C dL_law_504 (by decide +kernel) ?_
  refine x_iaddN C dL_law_505 ?_
  refine x_sldN (k := 2) C hS hbl hb0 (by decide) (by decide) dL_law_506 ?_
  refine x_callV C (of_X10_alter xO hsa f (xs 1) (xs 2)) mv_X10_alter ml_L_60 (xO.1 100 _ rfl).1 rfl rfl rfl (Nat.le_of_ble_eq_true rfl) (hrm (rm := { frames := 0, cells := 0, slots := 0, locals := 0 }) hZ ⟨Nat.le_of_ble_eq_true rfl, Nat.le_of_ble_eq_true rfl⟩) (hcs hZ ⟨by show cl + 0 ≤ 600000; omega, by show sl + 0 ≤ 7302250; omega⟩) dL_law_507 (fun v G' hp => ?_)
  obtain ⟨rfl, rfl⟩ := hp
  show hX z (cl + 0) (sl + 0) (T, I, L, R, A) [(3, .int (nI 0)), (2, .ref (A 63)), (1, .ref (A 100)), (0, .ref b)] 510 [.int (-2)]
  refine x_aload_n C dL_law_510 1 rfl rfl ?_
  refine x_aload_n C dL_law_511 3 rfl rfl ?_
  refine x_iload_n C dL_law_512 0 rfl rfl ?_
  refine x_iconst (v := nI 1) C dL_law_513 (by decide +kernel) ?_
  refine x_iaddN C dL_law_514 ?_
  refine x_sldN (k := 1) C hS hbl hb0 (by decide) (by decide) dL_law_515 ?_
  refine x_aload_n C dL_law_516 3 rfl rfl ?_
  refine x_iload_n C dL_law_517 0 rfl rfl ?_
  refine x_iconst (v := nI 2) C dL_law_518 (by decide +kernel) ?_
  refine x_iaddN C dL_law_519 ?_
  refine x_sldN (k := 2) C hS hbl hb0 (by decide) (by decide) dL_law_520 ?_
  refine x_callV C (of_X11_alter mO fM (xs 1) (xs 2)) mv_X11_alter ml_L_63 mO.1 rfl rfl rfl (Nat.le_of_ble_eq_true rfl) (hrm (rm := { frames := 0, cells := 0, slots := 0, locals := 0 }) hZ ⟨Nat.le_of_ble_eq_true rfl, Nat.le_of_ble_eq_true rfl⟩) (hcs hZ ⟨by show cl + 0 + 0 ≤ 600000; omega, by show sl + 0 + 0 ≤ 7302250; omega⟩) dL_law_521 (fun v G' hp => ?_)
  obtain ⟨rfl, rfl⟩ := hp
  show hX z (cl + 0 + 0) (sl + 0 + 0) (T, I, L, R, A) [(3, .int (nI 0)), (2, .ref (A 63)), (1, .ref (A 100)), (0, .ref b)] 524 [.int (-2), .int (-2)]
  refine x_icmp_eq (tgt := 764) C dL_law_524 (by decide) (fun _ => ?_) (fun c => absurd rfl c)
  exact J _ _ _ _ _ (by omega) (by omega)
set_option maxHeartbeats 4000000 in
set_option maxRecDepth 100000 in
theorem arm_11 {z : hZ} (C : hC z RL code) (hZ : zR z = room_1) {b cl sl : Nat} (hcl : cl ≤ 10000) (hsl : sl ≤ 100000) {xs : Nat → Int32} (hS : va_X b 6 xs (zs z) (zs z).heap) (hbl : b < (zs z).heap.size) (hb0 : b < z0 z) {T : Nat → Option hKd} {I : Nat → Nat → Int32} {L : Nat → Nat → Int64} {R : Nat → Nat → Option Nat} {A : Nat → Nat} (F : frs (z0 z) (zS z) T I L R A) (J : ∀ (c s : Nat) (G : hG) (x1 x2 : Nat), c ≤ 600000 → s ≤ 7302250 → hX z c s G [(3, .int (nI 0)), (2, .ref x2), (1, .ref x1), (0, .ref b)] 764 []) : hX z cl sl (T, I, L, R, A) [(3, .int (nI 0)), (2, .ref (A 63)), (1, .ref (A 100)), (0, .ref b)] 529 [] := by
  obtain ⟨⟨xO, hsa, hst, f⟩, ⟨mO, fM, h4, h5, h13⟩, hcv, hfr⟩ := F
  refine x_aload_n C dL_law_529 2 rfl rfl ?_
  refine x_aload_n C dL_law_530 3 rfl rfl ?_
  refine x_iload_n C dL_law_531 0 rfl rfl ?_
  refine x_iconst (v := nI 1) C dL_law_532 (by decide +kernel) ?_
  refine x_iaddN C dL_law_533 ?_
  refine x_sldN (k := 1) C hS hbl hb0 (by decide) (by decide) dL_law_534 ?_
  refine x_callV C (of_X10_cut xO hsa f (xs 1)) mv_X10_cut ml_L_64 (xO.1 100 _ rfl).1 rfl rfl rfl (Nat.le_of_ble_eq_true rfl) (hrm (rm := { frames := 0, cells := 0, slots := 0, locals := 0 }) hZ ⟨Nat.le_of_ble_eq_true rfl, Nat.le_of_ble_eq_true rfl⟩) (hcs hZ ⟨by show cl + 0 ≤ 600000; omega, by show sl + 0 ≤ 7302250; omega⟩) dL_law_535 (fun v G' hp => ?_)
  obtain ⟨rfl, K, rfl, hK⟩ := hp
  show hX z (cl + 0) (sl + 0) (T, K, L, R, A) [(3, .int (nI 0)), (2, .ref (A 63)), (1, .ref (A 100)), (0, .ref b)] 538 [.int (fCut (xs 1))]
  refine x_aload_n C dL_law_538 1 rfl rfl ?_
  refine x_aload_n C dL_law_539 3 rfl rfl ?_
  refine x_iload_n C dL_law_540 0 rfl rfl ?_
  refine x_iconst (v := nI 1) C dL_law_541 (by decide +kernel) ?_
  refine x_iaddN C dL_law_542 ?_
  refine x_sldN (k := 1) C hS hbl hb0 (by decide) (by decide) dL_law_543 ?_
  refine x_callV C (of_X11_cut mO (frM.of (hK 63 (by decide)) fM) (xs 1)) mv_X11_cut ml_L_67 mO.1 rfl rfl rfl (Nat.le_of_ble_eq_true rfl) (hrm (rm := { frames := 0, cells := 0, slots := 0, locals := 0 }) hZ ⟨Nat.le_of_ble_eq_true rfl, Nat.le_of_ble_eq_true rfl⟩) (hcs hZ ⟨by show cl + 0 + 0 ≤ 600000; omega, by show sl + 0 + 0 ≤ 7302250; omega⟩) dL_law_544 (fun v G' hp => ?_)
  subst hp
  show hX z (cl + 0 + 0) (sl + 0 + 0) G' [(3, .int (nI 0)), (2, .ref (A 63)), (1, .ref (A 100)), (0, .ref b)] 547 [.int (fCut (xs 1)), .int (fCut (xs 1))]
  refine x_icmp_eq (tgt := 764) C dL_law_547 (by decide) (fun _ => ?_) (fun c => absurd rfl c)
  exact J _ _ _ _ _ (by omega) (by omega)
set_option maxHeartbeats 4000000 in
set_option maxRecDepth 100000 in
theorem arm_12 {z : hZ} (C : hC z RL code) (hZ : zR z = room_1) {b cl sl : Nat} (hcl : cl ≤ 10000) (hsl : sl ≤ 100000) {xs : Nat → Int32} (hS : va_X b 6 xs (zs z) (zs z).heap) (hbl : b < (zs z).heap.size) (hb0 : b < z0 z) {T : Nat → Option hKd} {I : Nat → Nat → Int32} {L : Nat → Nat → Int64} {R : Nat → Nat → Option Nat} {A : Nat → Nat} (F : frs (z0 z) (zS z) T I L R A) (J : ∀ (c s : Nat) (G : hG) (x1 x2 : Nat), c ≤ 600000 → s ≤ 7302250 → hX z c s G [(3, .int (nI 0)), (2, .ref x2), (1, .ref x1), (0, .ref b)] 764 []) : hX z cl sl (T, I, L, R, A) [(3, .int (nI 0)), (2, .ref (A 63)), (1, .ref (A 100)), (0, .ref b)] 552 [] := by
  obtain ⟨⟨xO, hsa, hst, f⟩, ⟨mO, fM, h4, h5, h13⟩, hcv, hfr⟩ := F
  refine x_aload_n C dL_law_552 2 rfl rfl ?_
  refine x_aload_n C dL_law_553 3 rfl rfl ?_
  refine x_iload_n C dL_law_554 0 rfl rfl ?_
  refine x_iconst (v := nI 1) C dL_law_555 (by decide +kernel) ?_
  refine x_iaddN C dL_law_556 ?_
  refine x_sldN (k := 1) C hS hbl hb0 (by decide) (by decide) dL_law_557 ?_
  refine x_aload_n C dL_law_558 3 rfl rfl ?_
  refine x_iload_n C dL_law_559 0 rfl rfl ?_
  refine x_iconst (v := nI 2) C dL_law_560 (by decide +kernel) ?_
  refine x_iaddN C dL_law_561 ?_
  refine x_sldN (k := 2) C hS hbl hb0 (by decide) (by decide) dL_law_562 ?_
  refine x_callV C (of_X10_byteOf xO hsa f (xs 1) (xs 2)) mv_X10_byteOf ml_L_68 (xO.1 100 _ rfl).1 rfl rfl rfl (Nat.le_of_ble_eq_true rfl) (hrm (rm := { frames := 0, cells := 0, slots := 0, locals := 0 }) hZ ⟨Nat.le_of_ble_eq_true rfl, Nat.le_of_ble_eq_true rfl⟩) (hcs hZ ⟨by show cl + 0 ≤ 600000; omega, by show sl + 0 ≤ 7302250; omega⟩) dL_law_563 (fun v G' hp => ?_)
  obtain ⟨rfl, rfl⟩ := hp
  show hX z (cl + 0) (sl + 0) (T, I, L, R, A) [(3, .int (nI 0)), (2, .ref (A 63)), (1, .ref (A 100)), (0, .ref b)] 566 [.int (fByt (xs 1))]
  refine x_aload_n C dL_law_566 1 rfl rfl ?_
  refine x_aload_n C dL_law_567 3 rfl rfl ?_
  refine x_iload_n C dL_law_568 0 rfl rfl ?_
  refine x_iconst (v := nI 1) C dL_law_569 (by decide +kernel) ?_
  refine x_iaddN C dL_law_570 ?_
  refine x_sldN (k := 1) C hS hbl hb0 (by decide) (by decide) dL_law_571 ?_
  refine x_aload_n C dL_law_572 3 rfl rfl ?_
  refine x_iload_n C dL_law_573 0 rfl rfl ?_
  refine x_iconst (v := nI 2) C dL_law_574 (by decide +kernel) ?_
  refine x_iaddN C dL_law_575 ?_
  refine x_sldN (k := 2) C hS hbl hb0 (by decide) (by decide) dL_law_576 ?_
  refine x_callV C (of_X11_byteOf mO fM (xs 1) (xs 2)) mv_X11_byteOf ml_L_71 mO.1 rfl rfl rfl (Nat.le_of_ble_eq_true rfl) (hrm (rm := { frames := 0, cells := 0, slots := 0, locals := 0 }) hZ ⟨Nat.le_of_ble_eq_true rfl, Nat.le_of_ble_eq_true rfl⟩) (hcs hZ ⟨by show cl + 0 + 0 ≤ 600000; omega, by show sl + 0 + 0 ≤ 7302250; omega⟩) dL_law_577 (fun v G' hp => ?_)
  obtain ⟨rfl, rfl⟩ := hp
  show hX z (cl + 0 + 0) (sl + 0 + 0) (T, I, L, R, A) [(3, .int (nI 0)), (2, .ref (A 63)), (1, .ref (A 100)), (0, .ref b)] 580 [.int (fByt (xs 1)), .int (fByt (xs 1))]
  refine x_icmp_eq (tgt := 764) C dL_law_580 (by decide) (fun _ => ?_) (fun c => absurd rfl c)
  exact J _ _ _ _ _ (by omega) (by omega)
set_option maxHeartbeats 4000000 in
set_option maxRecDepth 100000 in
theorem arm_13 {z : hZ} (C : hC z RL code) (hZ : zR z = room_1) {b cl sl : Nat} (hcl : cl ≤ 10000) (hsl : sl ≤ 100000) {xs : Nat → Int32} (hS : va_X b 6 xs (zs z) (zs z).heap) (hbl : b < (zs z).heap.size) (hb0 : b < z0 z) {T : Nat → Option hKd} {I : Nat → Nat → Int32} {L : Nat → Nat → Int64} {R : Nat → Nat → Option Nat} {A : Nat → Nat} (F : frs (z0 z) (zS z) T I L R A) (J : ∀ (c s : Nat) (G : hG) (x1 x2 : Nat), c ≤ 600000 → s ≤ 7302250 → hX z c s G [(3, .int (nI 0)), (2, .ref x2), (1, .ref x1), (0, .ref b)] 764 []) : hX z cl sl (T, I, L, R, A) [(3, .int (nI 0)), (2, .ref (A 63)), (1, .ref (A 100)), (0, .ref b)] 585 [] := by
  obtain ⟨⟨xO, hsa, hst, f⟩, ⟨mO, fM, h4, h5, h13⟩, hcv, hfr⟩ := F
  refine x_aload_n C dL_law_585 2 rfl rfl ?_
  refine x_aload_n C dL_law_586 3 rfl rfl ?_
  refine x_iload_n C dL_law_587 0 rfl rfl ?_
  refine x_iconst (v := nI 1) C dL_law_588 (by decide +kernel) ?_
  refine x_iaddN C dL_law_589 ?_
  refine x_sldN (k := 1) C hS hbl hb0 (by decide) (by decide) dL_law_590 ?_
  refine x_aload_n C dL_law_591 3 rfl rfl ?_
  refine x_iload_n C dL_law_592 0 rfl rfl ?_
  refine x_iconst (v := nI 2) C dL_law_593 (by decide +kernel) ?_
  refine x_iaddN C dL_law_594 ?_
  refine x_sldN (k := 2) C hS hbl hb0 (by decide) (by decide) dL_law_595 ?_
  refine x_callV C (of_X10_hash xO hsa f (xs 1) (xs 2)) mv_X10_hash ml_L_72 (xO.1 100 _ rfl).1 rfl rfl rfl (Nat.le_of_ble_eq_true rfl) (hrm (rm := { frames := 0, cells := 0, slots := 0, locals := 0 }) hZ ⟨Nat.le_of_ble_eq_true rfl, Nat.le_of_ble_eq_true rfl⟩) (hcs hZ ⟨by show cl + 0 ≤ 600000; omega, by show sl + 0 ≤ 7302250; omega⟩) dL_law_596 (fun v G' hp => ?_)
  obtain ⟨rfl, rfl⟩ := hp
  show hX z (cl + 0) (sl + 0) (T, I, L, R, A) [(3, .int (nI 0)), (2, .ref (A 63)), (1, .ref (A 100)), (0, .ref b)] 599 [.int (-2)]
  refine x_aload_n C dL_law_599 1 rfl rfl ?_
  refine x_aload_n C dL_law_600 3 rfl rfl ?_
  refine x_iload_n C dL_law_601 0 rfl rfl ?_
  refine x_iconst (v := nI 1) C dL_law_602 (by decide +kernel) ?_
  refine x_iaddN C dL_law_603 ?_
  refine x_sldN (k := 1) C hS hbl hb0 (by decide) (by decide) dL_law_604 ?_
  refine x_aload_n C dL_law_605 3 rfl rfl ?_
  refine x_iload_n C dL_law_606 0 rfl rfl ?_
  refine x_iconst (v := nI 2) C dL_law_607 (by decide +kernel) ?_
  refine x_iaddN C dL_law_608 ?_
  refine x_sldN (k := 2) C hS hbl hb0 (by decide) (by decide) dL_law_609 ?_
  refine x_callV C (of_X11_hash mO fM (xs 1) (xs 2)) mv_X11_hash ml_L_75 mO.1 rfl rfl rfl (Nat.le_of_ble_eq_true rfl) (hrm (rm := { frames := 0, cells := 0, slots := 0, locals := 0 }) hZ ⟨Nat.le_of_ble_eq_true rfl, Nat.le_of_ble_eq_true rfl⟩) (hcs hZ ⟨by show cl + 0 + 0 ≤ 600000; omega, by show sl + 0 + 0 ≤ 7302250; omega⟩) dL_law_610 (fun v G' hp => ?_)
  obtain ⟨rfl, rfl⟩ := hp
  show hX z (cl + 0 + 0) (sl + 0 + 0) (T, I, L, R, A) [(3, .int (nI 0)), (2, .ref (A 63)), (1, .ref (A 100)), (0, .ref b)] 613 [.int (-2), .int (-2)]
  refine x_icmp_eq (tgt := 764) C dL_law_613 (by decide) (fun _ => ?_) (fun c => absurd rfl c)
  exact J _ _ _ _ _ (by omega) (by omega)
set_option maxHeartbeats 4000000 in
set_option maxRecDepth 100000 in
theorem arm_14 {z : hZ} (C : hC z RL code) (hZ : zR z = room_1) {b cl sl : Nat} (hcl : cl ≤ 10000) (hsl : sl ≤ 100000) {xs : Nat → Int32} (hS : va_X b 6 xs (zs z) (zs z).heap) (hbl : b < (zs z).heap.size) (hb0 : b < z0 z) {T : Nat → Option hKd} {I : Nat → Nat → Int32} {L : Nat → Nat → Int64} {R : Nat → Nat → Option Nat} {A : Nat → Nat} (F : frs (z0 z) (zS z) T I L R A) (J : ∀ (c s : Nat) (G : hG) (x1 x2 : Nat), c ≤ 600000 → s ≤ 7302250 → hX z c s G [(3, .int (nI 0)), (2, .ref x2), (1, .ref x1), (0, .ref b)] 764 []) : hX z cl sl (T, I, L, R, A) [(3, .int (nI 0)), (2, .ref (A 63)), (1, .ref (A 100)), (0, .ref b)] 618 [] := by
  obtain ⟨⟨xO, hsa, hst, f⟩, ⟨mO, fM, h4, h5, h13⟩, hcv, hfr⟩ := F
  refine x_aload_n C dL_law_618 2 rfl rfl ?_
  refine x_aload_n C dL_law_619 3 rfl rfl ?_
  refine x_iload_n C dL_law_620 0 rfl rfl ?_
  refine x_iconst (v := nI 1) C dL_law_621 (by decide +kernel) ?_
  refine x_iaddN C dL_law_622 ?_
  refine x_sldN (k := 1) C hS hbl hb0 (by decide) (by decide) dL_law_623 ?_
  refine x_aload_n C dL_law_624 3 rfl rfl ?_
  refine x_iload_n C dL_law_625 0 rfl rfl ?_
  refine x_iconst (v := nI 2) C dL_law_626 (by decide +kernel) ?_
  refine x_iaddN C dL_law_627 ?_
  refine x_sldN (k := 2) C hS hbl hb0 (by decide) (by decide) dL_law_628 ?_
  refine x_callV C (of_X10_about xO hsa f (xs 1) (xs 2)) mv_X10_about ml_L_76 (xO.1 100 _ rfl).1 rfl rfl rfl (Nat.le_of_ble_eq_true rfl) (hrm (rm := { frames := 0, cells := 0, slots := 0, locals := 0 }) hZ ⟨Nat.le_of_ble_eq_true rfl, Nat.le_of_ble_eq_true rfl⟩) (hcs hZ ⟨by show cl + 0 ≤ 600000; omega, by show sl + 0 ≤ 7302250; omega⟩) dL_law_629 (fun v G' hp => ?_)
  obtain ⟨rfl, rfl⟩ := hp
  show hX z (cl + 0) (sl + 0) (T, I, L, R, A) [(3, .int (nI 0)), (2, .ref (A 63)), (1, .ref (A 100)), (0, .ref b)] 632 [.int (-2)]
  refine x_aload_n C dL_law_632 1 rfl rfl ?_
  refine x_aload_n C dL_law_633 3 rfl rfl ?_
  refine x_iload_n C dL_law_634 0 rfl rfl ?_
  refine x_iconst (v := nI 1) C dL_law_635 (by decide +kernel) ?_
  refine x_iaddN C dL_law_636 ?_
  refine x_sldN (k := 1) C hS hbl hb0 (by decide) (by decide) dL_law_637 ?_
  refine x_aload_n C dL_law_638 3 rfl rfl ?_
  refine x_iload_n C dL_law_639 0 rfl rfl ?_
  refine x_iconst (v := nI 2) C dL_law_640 (by decide +kernel) ?_
  refine x_iaddN C dL_law_641 ?_
  refine x_sldN (k := 2) C hS hbl hb0 (by decide) (by decide) dL_law_642 ?_
  refine x_callV C (of_X11_about mO fM (xs 1) (xs 2)) mv_X11_about ml_L_79 mO.1 rfl rfl rfl (Nat.le_of_ble_eq_true rfl) (hrm (rm := { frames := 0, cells := 0, slots := 0, locals := 0 }) hZ ⟨Nat.le_of_ble_eq_true rfl, Nat.le_of_ble_eq_true rfl⟩) (hcs hZ ⟨by show cl + 0 + 0 ≤ 600000; omega, by show sl + 0 + 0 ≤ 7302250; omega⟩) dL_law_643 (fun v G' hp => ?_)
  obtain ⟨rfl, rfl⟩ := hp
  show hX z (cl + 0 + 0) (sl + 0 + 0) (T, I, L, R, A) [(3, .int (nI 0)), (2, .ref (A 63)), (1, .ref (A 100)), (0, .ref b)] 646 [.int (-2), .int (-2)]
  refine x_icmp_eq (tgt := 764) C dL_law_646 (by decide) (fun _ => ?_) (fun c => absurd rfl c)
  exact J _ _ _ _ _ (by omega) (by omega)
set_option maxHeartbeats 4000000 in
set_option maxRecDepth 100000 in
theorem arm_15 {z : hZ} (C : hC z RL code) (hZ : zR z = room_1) {b cl sl : Nat} (hcl : cl ≤ 10000) (hsl : sl ≤ 100000) {xs : Nat → Int32} (hS : va_X b 6 xs (zs z) (zs z).heap) (hbl : b < (zs z).heap.size) (hb0 : b < z0 z) {T : Nat → Option hKd} {I : Nat → Nat → Int32} {L : Nat → Nat → Int64} {R : Nat → Nat → Option Nat} {A : Nat → Nat} (F : frs (z0 z) (zS z) T I L R A) (J : ∀ (c s : Nat) (G : hG) (x1 x2 : Nat), c ≤ 600000 → s ≤ 7302250 → hX z c s G [(3, .int (nI 0)), (2, .ref x2), (1, .ref x1), (0, .ref b)] 764 []) : hX z cl sl (T, I, L, R, A) [(3, .int (nI 0)), (2, .ref (A 63)), (1, .ref (A 100)), (0, .ref b)] 651 [] := by
  obtain ⟨⟨xO, hsa, hst, f⟩, ⟨mO, fM, h4, h5, h13⟩, hcv, hfr⟩ := F
  refine x_aload_n C dL_law_651 2 rfl rfl ?_
  refine x_aload_n C dL_law_652 3 rfl rfl ?_
  refine x_iload_n C dL_law_653 0 rfl rfl ?_
  refine x_iconst (v := nI 1) C dL_law_654 (by decide +kernel) ?_
  refine x_iaddN C dL_law_655 ?_
  refine x_sldN (k := 1) C hS hbl hb0 (by decide) (by decide) dL_law_656 ?_
  refine x_aload_n C dL_law_657 3 rfl rfl ?_
  refine x_iload_n C dL_law_658 0 rfl rfl ?_
  refine x_iconst (v := nI 2) C dL_law_659 (by decide +kernel) ?_
  refine x_iaddN C dL_law_660 ?_
  refine x_sldN (k := 2) C hS hbl hb0 (by decide) (by decide) dL_law_661 ?_
  refine x_callV C (of_X10_same xO hsa f (xs 1) (xs 2)) mv_X10_same ml_L_80 (xO.1 100 _ rfl).1 rfl rfl rfl (Nat.le_of_ble_eq_true rfl) (hrm (rm := { frames := 0, cells := 0, slots := 0, locals := 0 }) hZ ⟨Nat.le_of_ble_eq_true rfl, Nat.le_of_ble_eq_true rfl⟩) (hcs hZ ⟨by show cl + 0 ≤ 600000; omega, by show sl + 0 ≤ 7302250; omega⟩) dL_law_662 (fun v G' hp => ?_)
  obtain ⟨rfl, rfl⟩ := hp
  show hX z (cl + 0) (sl + 0) (T, I, L, R, A) [(3, .int (nI 0)), (2, .ref (A 63)), (1, .ref (A 100)), (0, .ref b)] 665 [.int (-2)]
  refine x_aload_n C dL_law_665 1 rfl rfl ?_
  refine x_aload_n C dL_law_666 3 rfl rfl ?_
  refine x_iload_n C dL_law_667 0 rfl rfl ?_
  refine x_iconst (v := nI 1) C dL_law_668 (by decide +kernel) ?_
  refine x_iaddN C dL_law_669 ?_
  refine x_sldN (k := 1) C hS hbl hb0 (by decide) (by decide) dL_law_670 ?_
  refine x_aload_n C dL_law_671 3 rfl rfl ?_
  refine x_iload_n C dL_law_672 0 rfl rfl ?_
  refine x_iconst (v := nI 2) C dL_law_673 (by decide +kernel) ?_
  refine x_iaddN C dL_law_674 ?_
  refine x_sldN (k := 2) C hS hbl hb0 (by decide) (by decide) dL_law_675 ?_
  refine x_callV C (of_X11_same mO fM (xs 1) (xs 2)) mv_X11_same ml_L_83 mO.1 rfl rfl rfl (Nat.le_of_ble_eq_true rfl) (hrm (rm := { frames := 0, cells := 0, slots := 0, locals := 0 }) hZ ⟨Nat.le_of_ble_eq_true rfl, Nat.le_of_ble_eq_true rfl⟩) (hcs hZ ⟨by show cl + 0 + 0 ≤ 600000; omega, by show sl + 0 + 0 ≤ 7302250; omega⟩) dL_law_676 (fun v G' hp => ?_)
  obtain ⟨rfl, rfl⟩ := hp
  show hX z (cl + 0 + 0) (sl + 0 + 0) (T, I, L, R, A) [(3, .int (nI 0)), (2, .ref (A 63)), (1, .ref (A 100)), (0, .ref b)] 679 [.int (-2), .int (-2)]
  refine x_icmp_eq (tgt := 764) C dL_law_679 (by decide) (fun _ => ?_) (fun c => absurd rfl c)
  exact J _ _ _ _ _ (by omega) (by omega)
set_option maxHeartbeats 4000000 in
set_option maxRecDepth 100000 in
theorem arm_16 {z : hZ} (C : hC z RL code) (hZ : zR z = room_1) {b cl sl : Nat} (hcl : cl ≤ 10000) (hsl : sl ≤ 100000) {xs : Nat → Int32} (hS : va_X b 6 xs (zs z) (zs z).heap) (hbl : b < (zs z).heap.size) (hb0 : b < z0 z) {T : Nat → Option hKd} {I : Nat → Nat → Int32} {L : Nat → Nat → Int64} {R : Nat → Nat → Option Nat} {A : Nat → Nat} (F : frs (z0 z) (zS z) T I L R A) (J : ∀ (c s : Nat) (G : hG) (x1 x2 : Nat), c ≤ 600000 → s ≤ 7302250 → hX z c s G [(3, .int (nI 0)), (2, .ref x2), (1, .ref x1), (0, .ref b)] 764 []) : hX z cl sl (T, I, L, R, A) [(3, .int (nI 0)), (2, .ref (A 63)), (1, .ref (A 100)), (0, .ref b)] 684 [] := by
  obtain ⟨⟨xO, hsa, hst, f⟩, ⟨mO, fM, h4, h5, h13⟩, hcv, hfr⟩ := F
  refine x_aload_n C dL_law_684 2 rfl rfl ?_
  refine x_aload_n C dL_law_685 3 rfl rfl ?_
  refine x_iload_n C dL_law_686 0 rfl rfl ?_
  refine x_iconst (v := nI 1) C dL_law_687 (by decide +kernel) ?_
  refine x_iaddN C dL_law_688 ?_
  refine x_sldN (k := 1) C hS hbl hb0 (by decide) (by decide) dL_law_689 ?_
  refine x_aload_n C dL_law_690 3 rfl rfl ?_
  refine x_iload_n C dL_law_691 0 rfl rfl ?_
  refine x_iconst (v := nI 2) C dL_law_692 (by decide +kernel) ?_
  refine x_iaddN C dL_law_693 ?_
  refine x_sldN (k := 2) C hS hbl hb0 (by decide) (by decide) dL_law_694 ?_
  refine x_aload_n C dL_law_695 3 rfl rfl ?_
  refine x_iload_n C dL_law_696 0 rfl rfl ?_
  refine x_iconst (v := nI 3) C dL_law_697 (by decide +kernel) ?_
  refine x_iaddN C dL_law_698 ?_
  refine x_sldN (k := 3) C hS hbl hb0 (by decide) (by decide) dL_law_699 ?_
  refine x_callV C (ok_X10_key xO hsa 124 125 126 127 hcv hst (xs 1) (xs 2) (xs 3)) mv_X10_key ml_L_84 (xO.1 100 _ rfl).1 rfl rfl rfl (Nat.le_of_ble_eq_true rfl) (hrm (rm := { frames := 0, cells := 0, slots := 0, locals := 0 }) hZ ⟨Nat.le_of_ble_eq_true rfl, Nat.le_of_ble_eq_true rfl⟩) (hcs hZ ⟨by show cl + 0 ≤ 600000; omega, by show sl + 0 ≤ 7302250; omega⟩) dL_law_700 (fun v G' hp => ?_)
  rcases hp with ⟨hn, rfl, rfl⟩ | ⟨k, hk, hn, rfl, K, L1, R1, rfl, i1, i2, -⟩
  · show hX z (cl + 0) (sl + 0) (T, I, L, R, A) [(3, .int (nI 0)), (2, .ref (A 63)), (1, .ref (A 100)), (0, .ref b)] 703 [.int (-2)]
    refine x_aload_n C dL_law_703 1 rfl rfl ?_
    refine x_aload_n C dL_law_704 3 rfl rfl ?_
    refine x_iload_n C dL_law_705 0 rfl rfl ?_
    refine x_iconst (v := nI 1) C dL_law_706 (by decide +kernel) ?_
    refine x_iaddN C dL_law_707 ?_
    refine x_sldN (k := 1) C hS hbl hb0 (by decide) (by decide) dL_law_708 ?_
    refine x_aload_n C dL_law_709 3 rfl rfl ?_
    refine x_iload_n C dL_law_710 0 rfl rfl ?_
    refine x_iconst (v := nI 2) C dL_law_711 (by decide +kernel) ?_
    refine x_iaddN C dL_law_712 ?_
    refine x_sldN (k := 2) C hS hbl hb0 (by decide) (by decide) dL_law_713 ?_
    refine x_aload_n C dL_law_714 3 rfl rfl ?_
    refine x_iload_n C dL_law_715 0 rfl rfl ?_
    refine x_iconst (v := nI 3) C dL_law_716 (by decide +kernel) ?_
    refine x_iaddN C dL_law_717 ?_
    refine x_sldN (k := 3) C hS hbl hb0 (by decide) (by decide) dL_law_718 ?_
    refine x_callV C (ok_X11_key mO h4 h5 h13 (xs 1) (xs 2) (xs 3)) mv_X11_key ml_L_88 mO.1 rfl rfl rfl (Nat.le_of_ble_eq_true rfl) (hrm (rm := { frames := 0, cells := 0, slots := 0, locals := 0 }) hZ ⟨Nat.le_of_ble_eq_true rfl, Nat.le_of_ble_eq_true rfl⟩) (hcs hZ ⟨by show cl + 0 + 0 ≤ 600000; omega, by show sl + 0 + 0 ≤ 7302250; omega⟩) dL_law_719 (fun v G' hp => ?_)
    rcases hp with ⟨hn', rfl, rfl⟩ | ⟨k', hk', hn', rfl, K', L', rfl, -⟩
    · show hX z (cl + 0 + 0) (sl + 0 + 0) (T, I, L, R, A) [(3, .int (nI 0)), (2, .ref (A 63)), (1, .ref (A 100)), (0, .ref b)] 722 [.int (-2), .int (-2)]
      refine x_icmp_eq (tgt := 764) C dL_law_722 (by decide) (fun _ => ?_) (fun c => absurd rfl c)
      exact J _ _ _ _ _ (by omega) (by omega)
    · exact (ky_x hn hk' hn').elim
  · show hX z (cl + 0) (sl + 0) (T, K, L1, R1, A) [(3, .int (nI 0)), (2, .ref (A 63)), (1, .ref (A 100)), (0, .ref b)] 703 [.int (pubF (secF (xs 1) (xs 2)) k)]
    have mO1 : isM T R1 A (z0 z) := mO.kept (fun q hq => ⟨rfl, i2.1 q (by omega), rfl⟩)
    refine x_aload_n C dL_law_703 1 rfl rfl ?_
    refine x_aload_n C dL_law_704 3 rfl rfl ?_
    refine x_iload_n C dL_law_705 0 rfl rfl ?_
    refine x_iconst (v := nI 1) C dL_law_706 (by decide +kernel) ?_
    refine x_iaddN C dL_law_707 ?_
    refine x_sldN (k := 1) C hS hbl hb0 (by decide) (by decide) dL_law_708 ?_
    refine x_aload_n C dL_law_709 3 rfl rfl ?_
    refine x_iload_n C dL_law_710 0 rfl rfl ?_
    refine x_iconst (v := nI 2) C dL_law_711 (by decide +kernel) ?_
    refine x_iaddN C dL_law_712 ?_
    refine x_sldN (k := 2) C hS hbl hb0 (by decide) (by decide) dL_law_713 ?_
    refine x_aload_n C dL_law_714 3 rfl rfl ?_
    refine x_iload_n C dL_law_715 0 rfl rfl ?_
    refine x_iconst (v := nI 3) C dL_law_716 (by decide +kernel) ?_
    refine x_iaddN C dL_law_717 ?_
    refine x_sldN (k := 3) C hS hbl hb0 (by decide) (by decide) dL_law_718 ?_
    refine x_callV C (ok_X11_key mO1 (fun t ht => by rw [i1 4 (by decide)]; exact h4 t ht) (fun t ht => by rw [i1 5 (by decide)]; exact h5 t ht) (fun t t1 t2 => by rw [i1 13 (by decide)]; exact h13 t t1 t2) (xs 1) (xs 2) (xs 3)) mv_X11_key ml_L_88 mO1.1 rfl rfl rfl (Nat.le_of_ble_eq_true rfl) (hrm (rm := { frames := 0, cells := 0, slots := 0, locals := 0 }) hZ ⟨Nat.le_of_ble_eq_true rfl, Nat.le_of_ble_eq_true rfl⟩) (hcs hZ ⟨by show cl + 0 + 0 ≤ 600000; omega, by show sl + 0 + 0 ≤ 7302250; omega⟩) dL_law_719 (fun v G' hp => ?_)
    rcases hp with ⟨hn', rfl, rfl⟩ | ⟨k', hk', hn', rfl, K', L', rfl, -⟩
    · exact (ky_x hn' hk hn).elim
    · have ek : k' = k := (nI_eq (by omega) (by omega)).mp (hn'.symm.trans hn)
      subst ek
      show hX z (cl + 0 + 0) (sl + 0 + 0) (T, K', L', R1, A) [(3, .int (nI 0)), (2, .ref (A 63)), (1, .ref (A 100)), (0, .ref b)] 722 [.int (pubF (secF (xs 1) (xs 2)) k'), .int (pubF (secF (xs 1) (xs 2)) k')]
      refine x_icmp_eq (tgt := 764) C dL_law_722 (by decide) (fun _ => ?_) (fun c => absurd rfl c)
      exact J _ _ _ _ _ (by omega) (by omega)
set_option maxHeartbeats 4000000 in
set_option maxRecDepth 100000 in
theorem arm_17 {z : hZ} (C : hC z RL code) (hZ : zR z = room_1) {b cl sl : Nat} (hcl : cl ≤ 10000) (hsl : sl ≤ 100000) {xs : Nat → Int32} (hS : va_X b 6 xs (zs z) (zs z).heap) (hbl : b < (zs z).heap.size) (hb0 : b < z0 z) {T : Nat → Option hKd} {I : Nat → Nat → Int32} {L : Nat → Nat → Int64} {R : Nat → Nat → Option Nat} {A : Nat → Nat} (F : frs (z0 z) (zS z) T I L R A) (J : ∀ (c s : Nat) (G : hG) (x1 x2 : Nat), c ≤ 600000 → s ≤ 7302250 → hX z c s G [(3, .int (nI 0)), (2, .ref x2), (1, .ref x1), (0, .ref b)] 764 []) : hX z cl sl (T, I, L, R, A) [(3, .int (nI 0)), (2, .ref (A 63)), (1, .ref (A 100)), (0, .ref b)] 727 [] := by
  obtain ⟨⟨xO, hsa, hst, f⟩, ⟨mO, fM, h4, h5, h13⟩, hcv, hfr⟩ := F
  refine x_aload_n C dL_law_727 2 rfl rfl ?_
  refine x_aload_n C dL_law_728 3 rfl rfl ?_
  refine x_iload_n C dL_law_729 0 rfl rfl ?_
  refine x_iconst (v := nI 1) C dL_law_730 (by decide +kernel) ?_
  refine x_iaddN C dL_law_731 ?_
  refine x_sldN (k := 1) C hS hbl hb0 (by decide) (by decide) dL_law_732 ?_
  refine x_callV C (of_X10_count xO hsa f (xs 1)) mv_X10_count ml_L_89 (xO.1 100 _ rfl).1 rfl rfl rfl (Nat.le_of_ble_eq_true rfl) (hrm (rm := { frames := 0, cells := 0, slots := 0, locals := 0 }) hZ ⟨Nat.le_of_ble_eq_true rfl, Nat.le_of_ble_eq_true rfl⟩) (hcs hZ ⟨by show cl + 0 ≤ 600000; omega, by show sl + 0 ≤ 7302250; omega⟩) dL_law_733 (fun v G' hp => ?_)
  obtain ⟨rfl, rfl⟩ := hp
  show hX z (cl + 0) (sl + 0) (T, I, L, R, A) [(3, .int (nI 0)), (2, .ref (A 63)), (1, .ref (A 100)), (0, .ref b)] 736 [.int (fCnt (xs 1))]
  refine x_aload_n C dL_law_736 1 rfl rfl ?_
  refine x_aload_n C dL_law_737 3 rfl rfl ?_
  refine x_iload_n C dL_law_738 0 rfl rfl ?_
  refine x_iconst (v := nI 1) C dL_law_739 (by decide +kernel) ?_
  refine x_iaddN C dL_law_740 ?_
  refine x_sldN (k := 1) C hS hbl hb0 (by decide) (by decide) dL_law_741 ?_
  refine x_callV C (of_X11_count mO fM (xs 1)) mv_X11_count ml_L_92 mO.1 rfl rfl rfl (Nat.le_of_ble_eq_true rfl) (hrm (rm := { frames := 0, cells := 0, slots := 0, locals := 0 }) hZ ⟨Nat.le_of_ble_eq_true rfl, Nat.le_of_ble_eq_true rfl⟩) (hcs hZ ⟨by show cl + 0 + 0 ≤ 600000; omega, by show sl + 0 + 0 ≤ 7302250; omega⟩) dL_law_742 (fun v G' hp => ?_)
  obtain ⟨rfl, rfl⟩ := hp
  show hX z (cl + 0 + 0) (sl + 0 + 0) (T, I, L, R, A) [(3, .int (nI 0)), (2, .ref (A 63)), (1, .ref (A 100)), (0, .ref b)] 745 [.int (fCnt (xs 1)), .int (fCnt (xs 1))]
  refine x_icmp_eq (tgt := 764) C dL_law_745 (by decide) (fun _ => ?_) (fun c => absurd rfl c)
  exact J _ _ _ _ _ (by omega) (by omega)
set_option maxHeartbeats 4000000 in
set_option maxRecDepth 100000 in
theorem arm_18 {z : hZ} (C : hC z RL code) (hZ : zR z = room_1) {b cl sl : Nat} (hcl : cl ≤ 10000) (hsl : sl ≤ 100000) {xs : Nat → Int32} (hS : va_X b 6 xs (zs z) (zs z).heap) (hbl : b < (zs z).heap.size) (hb0 : b < z0 z) {T : Nat → Option hKd} {I : Nat → Nat → Int32} {L : Nat → Nat → Int64} {R : Nat → Nat → Option Nat} {A : Nat → Nat} (F : frs (z0 z) (zS z) T I L R A) (J : ∀ (c s : Nat) (G : hG) (x1 x2 : Nat), c ≤ 600000 → s ≤ 7302250 → hX z c s G [(3, .int (nI 0)), (2, .ref x2), (1, .ref x1), (0, .ref b)] 764 []) : hX z cl sl (T, I, L, R, A) [(3, .int (nI 0)), (2, .ref (A 63)), (1, .ref (A 100)), (0, .ref b)] 750 [] := by
  obtain ⟨⟨xO, hsa, hst, f⟩, ⟨mO, fM, h4, h5, h13⟩, hcv, hfr⟩ := F
  refine x_aload_n C dL_law_750 2 rfl rfl ?_
  refine x_callV C (of_X10_digest xO hsa f ) mv_X10_digest ml_L_93 (xO.1 100 _ rfl).1 rfl rfl rfl (Nat.le_of_ble_eq_true rfl) (hrm (rm := { frames := 0, cells := 0, slots := 0, locals := 0 }) hZ ⟨Nat.le_of_ble_eq_true rfl, Nat.le_of_ble_eq_true rfl⟩) (hcs hZ ⟨by show cl + 0 ≤ 600000; omega, by show sl + 0 ≤ 7302250; omega⟩) dL_law_751 (fun v G' hp => ?_)
  obtain ⟨rfl, rfl⟩ := hp
  show hX z (cl + 0) (sl + 0) (T, I, L, R, A) [(3, .int (nI 0)), (2, .ref (A 63)), (1, .ref (A 100)), (0, .ref b)] 754 [.long 67]
  refine x_aload_n C dL_law_754 1 rfl rfl ?_
  refine x_callV C (of_X11_digest mO fM ) mv_X11_digest ml_L_97 mO.1 rfl rfl rfl (Nat.le_of_ble_eq_true rfl) (hrm (rm := { frames := 0, cells := 0, slots := 0, locals := 0 }) hZ ⟨Nat.le_of_ble_eq_true rfl, Nat.le_of_ble_eq_true rfl⟩) (hcs hZ ⟨by show cl + 0 + 0 ≤ 600000; omega, by show sl + 0 + 0 ≤ 7302250; omega⟩) dL_law_755 (fun v G' hp => ?_)
  obtain ⟨rfl, rfl⟩ := hp
  show hX z (cl + 0 + 0) (sl + 0 + 0) (T, I, L, R, A) [(3, .int (nI 0)), (2, .ref (A 63)), (1, .ref (A 100)), (0, .ref b)] 758 [.long 67, .long 67]
  refine x_lcmp C dL_law_758 ?_
  refine x_if_eq (tgt := 764) C dL_law_759 (by decide) (fun _ => ?_) (fun c => absurd (by decide +kernel) c)
  exact J _ _ _ _ _ (by omega) (by omega)
