/-! ===== the name's text ===== -/
section HXSt
variable {z : hZ} {own : String} {cc : ByteArray} {cells slots pc : Nat} {G : hG} {lv : List (Nat × Value)} {rest : List Value}
theorem x_sval (C : hC z own cc) {index : Nat} (hl : Cond.fieldLink own index "java/lang/String" "value" "[B" ∈ lw_g) (d : decode cc pc = .ok (.getfield index, 3)) (kk : hX z cells slots G lv (pc + 3) (.ref (zS z 6) :: rest)) : hX z cells slots G lv pc (.ref (zS z 5) :: rest) := fun H locs ls h1 h2 h3 => vk_getf C.1 C.2.1 (C.2.2.2.2.2.1.2.2.2.2.2.1.1 0 (by decide)).2.2.1 h2 C.2.2.2.1 (C.2.2.2.2.1 _ hl) (fun _ h => h) d (kk H locs ls h1 h2 h3)
theorem x_scod (C : hC z own cc) {index : Nat} (hl : Cond.fieldLink own index "java/lang/String" "coder" "B" ∈ lw_g) (d : decode cc pc = .ok (.getfield index, 3)) (kk : hX z cells slots G lv (pc + 3) (.int 0 :: rest)) : hX z cells slots G lv pc (.ref (zS z 5) :: rest) := fun H locs ls h1 h2 h3 => vk_getf C.1 C.2.1 (C.2.2.2.2.2.1.2.2.2.2.2.1.1 0 (by decide)).2.1 h2 C.2.2.2.1 (C.2.2.2.2.1 _ hl) (fun _ h => h) d (kk H locs ls h1 h2 h3)
theorem x_scmp (C : hC z own cc) {index : Nat} (hl : Cond.fieldLink own index "java/lang/String" "COMPACT_STRINGS" "Z" ∈ lw_g) (d : decode cc pc = .ok (.getstatic index, 3)) (kk : hX z cells slots G lv (pc + 3) (.int 1 :: rest)) : hX z cells slots G lv pc rest := fun H locs ls h1 h2 h3 => va_gets C.1 C.2.1 C.2.2.2.2.2.1.2.2.2.2.2.2.1 h2 C.2.2.2.1 (C.2.2.2.2.1 _ hl) (fun _ h => h) d (kk H locs ls h1 h2 h3)
theorem x_sfmt (C : hC z own cc) {index : Nat} (hl : Cond.fieldLink own index "jdk/internal/util/Preconditions" "SIOOBE_FORMATTER" "Ljava/util/function/BiFunction;" ∈ lw_g) (d : decode cc pc = .ok (.getstatic index, 3)) (kk : hX z cells slots G lv (pc + 3) (.null :: rest)) (kr : ∀ t, hX z cells slots G lv (pc + 3) (.ref t :: rest)) : hX z cells slots G lv pc rest := fun H locs ls h1 h2 h3 => by
  rcases C.2.2.2.2.2.1.2.2.2.2.2.2.2 with h | ⟨t, h⟩
  · exact va_gets C.1 C.2.1 h h2 C.2.2.2.1 (C.2.2.2.2.1 _ hl) (fun _ h => h) d (kk H locs ls h1 h2 h3)
  · exact va_gets C.1 C.2.1 h h2 C.2.2.2.1 (C.2.2.2.2.1 _ hl) (fun _ h => h) d (kr t H locs ls h1 h2 h3)
theorem x_slen6 (C : hC z own cc) (d : decode cc pc = .ok (.arraylength, 1)) (kk : hX z cells slots G lv (pc + 1) (.int (nI 18) :: rest)) : hX z cells slots G lv pc (.ref (zS z 6) :: rest) := fun H locs ls h1 h2 h3 => va_tlen C.1 C.2.1 (C.2.2.2.2.2.1.2.2.2.2.2.1.1 0 (by decide)).2.2.2 h2 rfl d (kk H locs ls h1 h2 h3)
theorem x_sbt (C : hC z own cc) {k : Nat} (hk : k < 18) (d : decode cc pc = .ok (.baload, 1)) (kk : hX z cells slots G lv (pc + 1) (.int (hNm.getD k 0) :: rest)) : hX z cells slots G lv pc (.int (nI k) :: .ref (zS z 6) :: rest) := fun H locs ls h1 h2 h3 => va_tb C.1 C.2.1 (C.2.2.2.2.2.1.2.2.2.2.2.1.1 0 (by decide)).2.2.2 h2 (vp_in_nI hk (by decide)) (by rw [nI_clamp (by omega)]; rfl) d (kk H locs ls h1 h2 h3)
theorem x_i2c (C : hC z own cc) {x v : Int32} (d : decode cc pc = .ok (.i2c, 1)) (hv : (x.toUInt32 % 65536).toInt32 = v) (kk : hX z cells slots G lv (pc + 1) (.int v :: rest)) : hX z cells slots G lv pc (.int x :: rest) := fun H locs ls h1 h2 h3 => lv_i2c C.1 C.2.1 d hv (kk H locs ls h1 h2 h3)
theorem x_pop (C : hC z own cc) {va : Value} (d : decode cc pc = .ok (.pop, 1)) (hva : va.category = 1) (kk : hX z cells slots G lv (pc + 1) rest) : hX z cells slots G lv pc (va :: rest) := fun H locs ls h1 h2 h3 => lv_pop C.1 C.2.1 d hva (kk H locs ls h1 h2 h3)
theorem x_nret {y : MethodName} {rm : Room} {post : Option Value → hG → Prop} {v : Int32} {ty : FieldType} (C : hC z own cc) (E : hE z y (some ty) rm post) (hn : narrow ty (.int v) = .int v) (hc : cells ≤ rm.cells) (hs : slots ≤ rm.slots) (d : decode cc pc = .ok (.ireturn, 1)) (hp : post (some (.int v)) G) : hX z cells slots G lv pc [.int v] := by
  intro H locs ls h1 h2 h3
  refine W.widen hc hs ?_
  show W _ _ _ _ _ _ _ _ _ _ _ _ _ _ (zQ z) _
  rw [E.2.2.2.2]
  exact W.zret C.1 C.2.1 E.1 hn (x_fit E hp h1 h2) h2.2.2 d E.2.1
theorem x_ldcS (C : hC z "StepShake$Talk" cc) (d : decode cc pc = .ok (.ldc 107, 2)) (kk : hX z cells slots G lv (pc + 2) (.ref (zS z 5) :: rest)) : hX z cells slots G lv pc rest := fun H locs ls h1 h2 h3 => va_ldcS C.1 C.2.1 C.2.2.2.1 C.2.2.2.2.2.1.2.2.2.2.1 d (kk H locs ls h1 h2 h3)
theorem x_callStr (C : hC z own cc) {y : MethodName} {cy : ByteArray} {nL index n : Nat} {ret : Option FieldType} {rm : Room} {As : List Value} {post : Option Value → hG → Prop} {st0 : List Value} (hm : hM (zl z) (z0 z) (zD z) (zS z) y cy nL ret rm (.ref (zS z 5) :: As) G post) (f : hMv y cy nL ret n) (hl : Cond.methodLink own index y ∈ lw_g) (hci : y.cls = "java/lang/String") (hn : As.length = n) (hst : st0 = As.reverse ++ .ref (zS z 5) :: rest) (hw : (rest.map fun v => v.category).sum ≤ 8)
    (hR : rm.frames + 1 ≤ (zR z).frames ∧ 8 + (nL + 11) + rm.locals ≤ (zR z).locals) (hf : cells + rm.cells ≤ (zR z).cells ∧ slots + rm.slots ≤ (zR z).slots) (d : decode cc pc = .ok (.invokevirtual index, 3))
    (kk : ∀ (v : Option Value) (G' : hG), post v G' → hX z (cells + rm.cells) (slots + rm.slots) G' lv (pc + 3) (v.toList ++ rest)) : hX z cells slots G lv pc st0 := by
  intro H locs ls h1 h2 h3
  obtain ⟨⟨hc, hini, hd⟩, hin, hse⟩ := f
  have ht := C.2.2.2.2.1
  obtain ⟨ce, q1, q2, q3⟩ := vk_recv (i := 0) C.2.2.2.2.2.1.2.2.2.2.2.1 (by decide) h2
  exact hgo C h2 h3 (va_runV (Pc := hPc (z0 z) (zD z) (zS z) (.ref (zS z 5) :: As) G) (C := y.cls) ⟨C.1, C.2.1, C.2.2.1, C.2.2.2.1, ht⟩ hm ⟨callB_of n ht (lw_goodc hc) rfl rfl rfl (ht _ hini) (ht _ hl) hd hR, ht _ hin, ht _ hse⟩ ⟨hPc.blind, ⟨ce, q1, q2, by rw [hci]; exact q3⟩, hPc.there C h1 h2⟩ rfl hn h3.1 hst (lv_room hw) d hf) kk
end HXSt
set_option maxRecDepth 100000 in
theorem mv_J0_coder_7d493 : hMv yJ0_coder_7d493 cJ0_coder_7d493 1 (some .byte) 0 := ⟨⟨lw_in3 (i := 86) rfl rfl, ini_J0, by decide +kernel, by decide +kernel, by decide +kernel⟩, lw_in3 (i := 84) (by decide +kernel) (by decide +kernel), lw_in3 (i := 85) (by decide +kernel) (by decide +kernel)⟩
set_option maxHeartbeats 4000000 in
set_option maxRecDepth 100000 in
theorem ok_J0_coder_7d493 {l : Launch} {a0 : Nat} {D : va_G} {sa : Nat → Nat} {G : hG} : hM l a0 D sa yJ0_coder_7d493 cJ0_coder_7d493 1 (some .byte) { frames := 0, cells := 0, slots := 0, locals := 0 } [.ref (sa 5)] G (fun r G' => r = some (.int 0) ∧ G' = G) := by
  refine hM.of (by decide +kernel) (Nat.le_of_ble_eq_true rfl) ?_
  intro z hl h0 hD hS hN C E
  subst hl; subst h0; subst hD; subst hS
  have C : hC z RJ0 cJ0_coder_7d493 := C
  have hZ := E.2.2.2.1
  show hX z 0 0 G [(0, .ref (zS z 5))] 0 []
  refine x_scmp C sl_J0_38 dJ0_coder_7d493_0 ?_
  refine x_if_eq (tgt := 13) C dJ0_coder_7d493_3 (by decide) (fun c => absurd c (by decide)) (fun _ => ?_)
  refine x_aload_n C dJ0_coder_7d493_6 0 rfl rfl ?_
  refine x_scod C sl_J0_15 dJ0_coder_7d493_7 ?_
  refine x_goto (tgt := 14) C dJ0_coder_7d493_10 (by decide) ?_
  exact x_nret C E (by decide +kernel) (Nat.le_of_ble_eq_true rfl) (Nat.le_of_ble_eq_true rfl) dJ0_coder_7d493_14 ⟨rfl, rfl⟩
set_option maxRecDepth 100000 in
theorem mv_J0_length_8abf5 : hMv yJ0_length_8abf5 cJ0_length_8abf5 1 (some .int) 0 := ⟨⟨lw_in3 (i := 82) rfl rfl, ini_J0, by decide +kernel, by decide +kernel, by decide +kernel⟩, lw_in3 (i := 80) (by decide +kernel) (by decide +kernel), lw_in3 (i := 81) (by decide +kernel) (by decide +kernel)⟩
set_option maxHeartbeats 4000000 in
set_option maxRecDepth 100000 in
theorem ok_J0_length_8abf5 {l : Launch} {a0 : Nat} {D : va_G} {sa : Nat → Nat} {G : hG} : hM l a0 D sa yJ0_length_8abf5 cJ0_length_8abf5 1 (some .int) { frames := 1, cells := 0, slots := 0, locals := 20 } [.ref (sa 5)] G (fun r G' => r = some (.int (nI 18)) ∧ G' = G) := by
  refine hM.of (by decide +kernel) (Nat.le_of_ble_eq_true rfl) ?_
  intro z hl h0 hD hS hN C E
  subst hl; subst h0; subst hD; subst hS
  have C : hC z RJ0 cJ0_length_8abf5 := C
  have hZ := E.2.2.2.1
  show hX z 0 0 G [(0, .ref (zS z 5))] 0 []
  refine x_aload_n C dJ0_length_8abf5_0 0 rfl rfl ?_
  refine x_sval C sl_J0_9 dJ0_length_8abf5_1 ?_
  refine x_slen6 C dJ0_length_8abf5_4 ?_
  refine x_aload_n C dJ0_length_8abf5_5 0 rfl rfl ?_
  refine x_callStr (As := []) C ok_J0_coder_7d493 mv_J0_coder_7d493 ml_J0_335 rfl rfl rfl (Nat.le_of_ble_eq_true rfl) (hrm (rm := { frames := 0, cells := 0, slots := 0, locals := 0 }) hZ ⟨Nat.le_of_ble_eq_true rfl, Nat.le_of_ble_eq_true rfl⟩) (hcs hZ ⟨Nat.le_of_ble_eq_true rfl, Nat.le_of_ble_eq_true rfl⟩) dJ0_length_8abf5_6 (fun v G' hp => ?_)
  obtain ⟨rfl, rfl⟩ := hp
  show hX z 0 0 G' [(0, .ref (zS z 5))] 9 [.int 0, .int (nI 18)]
  refine x_ishr C dJ0_length_8abf5_9 ?_
  exact x_iret C E (Nat.le_of_ble_eq_true rfl) (Nat.le_of_ble_eq_true rfl) dJ0_length_8abf5_10 ⟨by rw [show isr (nI 18) 0 = nI 18 by decide +kernel], rfl⟩
set_option maxRecDepth 100000 in
theorem mv_J0_isLatin1_aae02 : hMv yJ0_isLatin1_aae02 cJ0_isLatin1_aae02 1 (some .boolean) 0 := ⟨⟨lw_in3 (i := 96) rfl rfl, ini_J0, by decide +kernel, by decide +kernel, by decide +kernel⟩, lw_in3 (i := 94) (by decide +kernel) (by decide +kernel), lw_in3 (i := 95) (by decide +kernel) (by decide +kernel)⟩
set_option maxHeartbeats 4000000 in
set_option maxRecDepth 100000 in
theorem ok_J0_isLatin1_aae02 {l : Launch} {a0 : Nat} {D : va_G} {sa : Nat → Nat} {G : hG} : hM l a0 D sa yJ0_isLatin1_aae02 cJ0_isLatin1_aae02 1 (some .boolean) { frames := 0, cells := 0, slots := 0, locals := 0 } [.ref (sa 5)] G (fun r G' => r = some (.int 1) ∧ G' = G) := by
  refine hM.of (by decide +kernel) (Nat.le_of_ble_eq_true rfl) ?_
  intro z hl h0 hD hS hN C E
  subst hl; subst h0; subst hD; subst hS
  have C : hC z RJ0 cJ0_isLatin1_aae02 := C
  have hZ := E.2.2.2.1
  show hX z 0 0 G [(0, .ref (zS z 5))] 0 []
  refine x_scmp C sl_J0_38 dJ0_isLatin1_aae02_0 ?_
  refine x_if_eq (tgt := 17) C dJ0_isLatin1_aae02_3 (by decide) (fun c => absurd c (by decide)) (fun _ => ?_)
  refine x_aload_n C dJ0_isLatin1_aae02_6 0 rfl rfl ?_
  refine x_scod C sl_J0_15 dJ0_isLatin1_aae02_7 ?_
  refine x_if_ne (tgt := 17) C dJ0_isLatin1_aae02_10 (by decide) (fun c => absurd rfl c) (fun _ => ?_)
  refine x_iconst (v := 1) C dJ0_isLatin1_aae02_13 (by decide +kernel) ?_
  refine x_goto (tgt := 18) C dJ0_isLatin1_aae02_14 (by decide) ?_
  exact x_zret C E (Or.inr rfl) (Nat.le_of_ble_eq_true rfl) (Nat.le_of_ble_eq_true rfl) dJ0_isLatin1_aae02_18 ⟨rfl, rfl⟩
set_option maxRecDepth 100000 in
theorem ms_J3_checkIndex_8e157 : hMs yJ3_checkIndex_8e157 cJ3_checkIndex_8e157 3 (some .int) 3 := ⟨⟨lw_in3 (i := 107) rfl rfl, ini_J3, by decide +kernel, by decide +kernel, by decide +kernel⟩, lw_in3 (i := 106) (by decide +kernel) (by decide +kernel)⟩
set_option maxHeartbeats 4000000 in
set_option maxRecDepth 100000 in
theorem ok_J3_checkIndex_n {l : Launch} {a0 : Nat} {D : va_G} {sa : Nat → Nat} {G : hG} (k n : Nat) (hk : k < n) (hn : n < 2 ^ 31) : hM l a0 D sa yJ3_checkIndex_8e157 cJ3_checkIndex_8e157 3 (some .int) { frames := 0, cells := 0, slots := 0, locals := 0 } [.int (nI k), .int (nI n), .null] G (fun r G' => r = some (.int (nI k)) ∧ G' = G) := by
  refine hM.of (by decide +kernel) (Nat.le_of_ble_eq_true rfl) ?_
  intro z hl h0 hD hS hN C E
  subst hl; subst h0; subst hD; subst hS
  have C : hC z RJ3 cJ3_checkIndex_8e157 := C
  have hZ := E.2.2.2.1
  show hX z 0 0 G [(0, .int (nI k)), (1, .int (nI n)), (2, .null)] 0 []
  refine x_iload_n C dJ3_checkIndex_8e157_0 0 rfl rfl ?_
  refine x_if_ltN (tgt := 9) C (by omega) dJ3_checkIndex_8e157_1 (by decide) ?_
  refine x_iload_n C dJ3_checkIndex_8e157_4 0 rfl rfl ?_
  refine x_iload_n C dJ3_checkIndex_8e157_5 1 rfl rfl ?_
  refine x_icmp_ltN (tgt := 16) C (by omega) hn dJ3_checkIndex_8e157_6 (by decide) (fun _ => ?_) (fun c => absurd c (by omega))
  refine x_iload_n C dJ3_checkIndex_8e157_16 0 rfl rfl ?_
  exact x_iret C E (Nat.le_of_ble_eq_true rfl) (Nat.le_of_ble_eq_true rfl) dJ3_checkIndex_8e157_17 ⟨rfl, rfl⟩
set_option maxHeartbeats 4000000 in
set_option maxRecDepth 100000 in
theorem ok_J3_checkIndex_r {l : Launch} {a0 : Nat} {D : va_G} {sa : Nat → Nat} {G : hG} (k n : Nat) (t : Nat) (hk : k < n) (hn : n < 2 ^ 31) : hM l a0 D sa yJ3_checkIndex_8e157 cJ3_checkIndex_8e157 3 (some .int) { frames := 0, cells := 0, slots := 0, locals := 0 } [.int (nI k), .int (nI n), .ref t] G (fun r G' => r = some (.int (nI k)) ∧ G' = G) := by
  refine hM.of (by decide +kernel) (Nat.le_of_ble_eq_true rfl) ?_
  intro z hl h0 hD hS hN C E
  subst hl; subst h0; subst hD; subst hS
  have C : hC z RJ3 cJ3_checkIndex_8e157 := C
  have hZ := E.2.2.2.1
  show hX z 0 0 G [(0, .int (nI k)), (1, .int (nI n)), (2, .ref t)] 0 []
  refine x_iload_n C dJ3_checkIndex_8e157_0 0 rfl rfl ?_
  refine x_if_ltN (tgt := 9) C (by omega) dJ3_checkIndex_8e157_1 (by decide) ?_
  refine x_iload_n C dJ3_checkIndex_8e157_4 0 rfl rfl ?_
  refine x_iload_n C dJ3_checkIndex_8e157_5 1 rfl rfl ?_
  refine x_icmp_ltN (tgt := 16) C (by omega) hn dJ3_checkIndex_8e157_6 (by decide) (fun _ => ?_) (fun c => absurd c (by omega))
  refine x_iload_n C dJ3_checkIndex_8e157_16 0 rfl rfl ?_
  exact x_iret C E (Nat.le_of_ble_eq_true rfl) (Nat.le_of_ble_eq_true rfl) dJ3_checkIndex_8e157_17 ⟨rfl, rfl⟩
set_option maxRecDepth 100000 in
theorem ms_J0_checkIndex_df160 : hMs yJ0_checkIndex_df160 cJ0_checkIndex_df160 2 none 2 := ⟨⟨lw_in3 (i := 102) rfl rfl, ini_J0, by decide +kernel, by decide +kernel, by decide +kernel⟩, lw_in3 (i := 101) (by decide +kernel) (by decide +kernel)⟩
set_option maxHeartbeats 4000000 in
set_option maxRecDepth 100000 in
theorem ok_J0_checkIndex_df160 {l : Launch} {a0 : Nat} {D : va_G} {sa : Nat → Nat} {G : hG} (k n : Nat) (hk : k < n) (hn : n < 2 ^ 31) : hM l a0 D sa yJ0_checkIndex_df160 cJ0_checkIndex_df160 2 none { frames := 1, cells := 0, slots := 0, locals := 22 } [.int (nI k), .int (nI n)] G (fun r G' => r = none ∧ G' = G) := by
  refine hM.of (by decide +kernel) (Nat.le_of_ble_eq_true rfl) ?_
  intro z hl h0 hD hS hN C E
  subst hl; subst h0; subst hD; subst hS
  have C : hC z RJ0 cJ0_checkIndex_df160 := C
  have hZ := E.2.2.2.1
  show hX z 0 0 G [(0, .int (nI k)), (1, .int (nI n))] 0 []
  refine x_iload_n C dJ0_checkIndex_df160_0 0 rfl rfl ?_
  refine x_iload_n C dJ0_checkIndex_df160_1 1 rfl rfl ?_
  refine x_sfmt C sl_J0_1053 dJ0_checkIndex_df160_2 ?_ (fun t => ?_)
  · refine x_callS (As := [.int (nI k), .int (nI n), .null]) C (ok_J3_checkIndex_n k n hk hn) ms_J3_checkIndex_8e157 ml_J0_1059 rfl rfl (Nat.le_of_ble_eq_true rfl) (hrm (rm := { frames := 0, cells := 0, slots := 0, locals := 0 }) hZ ⟨Nat.le_of_ble_eq_true rfl, Nat.le_of_ble_eq_true rfl⟩) (hcs hZ ⟨Nat.le_of_ble_eq_true rfl, Nat.le_of_ble_eq_true rfl⟩) dJ0_checkIndex_df160_5 (fun w G' hp => ?_)
    obtain ⟨rfl, rfl⟩ := hp
    show hX z 0 0 G' [(0, .int (nI k)), (1, .int (nI n))] 8 [.int (nI k)]
    refine x_pop C dJ0_checkIndex_df160_8 rfl ?_
    exact x_vret C E (Nat.le_of_ble_eq_true rfl) (Nat.le_of_ble_eq_true rfl) dJ0_checkIndex_df160_9 ⟨rfl, rfl⟩
  · refine x_callS (As := [.int (nI k), .int (nI n), .ref t]) C (ok_J3_checkIndex_r k n t hk hn) ms_J3_checkIndex_8e157 ml_J0_1059 rfl rfl (Nat.le_of_ble_eq_true rfl) (hrm (rm := { frames := 0, cells := 0, slots := 0, locals := 0 }) hZ ⟨Nat.le_of_ble_eq_true rfl, Nat.le_of_ble_eq_true rfl⟩) (hcs hZ ⟨Nat.le_of_ble_eq_true rfl, Nat.le_of_ble_eq_true rfl⟩) dJ0_checkIndex_df160_5 (fun w G' hp => ?_)
    obtain ⟨rfl, rfl⟩ := hp
    show hX z 0 0 G' [(0, .int (nI k)), (1, .int (nI n))] 8 [.int (nI k)]
    refine x_pop C dJ0_checkIndex_df160_8 rfl ?_
    exact x_vret C E (Nat.le_of_ble_eq_true rfl) (Nat.le_of_ble_eq_true rfl) dJ0_checkIndex_df160_9 ⟨rfl, rfl⟩
set_option maxRecDepth 100000 in
theorem ms_J1_charAt_3b067 : hMs yJ1_charAt_3b067 cJ1_charAt_3b067 2 (some .char) 2 := ⟨⟨lw_in3 (i := 99) rfl rfl, ini_J1, by decide +kernel, by decide +kernel, by decide +kernel⟩, lw_in3 (i := 98) (by decide +kernel) (by decide +kernel)⟩
set_option maxHeartbeats 4000000 in
set_option maxRecDepth 100000 in
theorem ok_J1_charAt_3b067 {l : Launch} {a0 : Nat} {D : va_G} {sa : Nat → Nat} {G : hG} (k : Nat) (hk : k < 18) : hM l a0 D sa yJ1_charAt_3b067 cJ1_charAt_3b067 2 (some .char) { frames := 2, cells := 0, slots := 0, locals := 43 } [.ref (sa 6), .int (nI k)] G (fun r G' => r = some (.int (hNm.getD k 0)) ∧ G' = G) := by
  refine hM.of (by decide +kernel) (Nat.le_of_ble_eq_true rfl) ?_
  intro z hl h0 hD hS hN C E
  subst hl; subst h0; subst hD; subst hS
  have C : hC z RJ1 cJ1_charAt_3b067 := C
  have hZ := E.2.2.2.1
  show hX z 0 0 G [(0, .ref (zS z 6)), (1, .int (nI k))] 0 []
  refine x_iload_n C dJ1_charAt_3b067_0 1 rfl rfl ?_
  refine x_aload_n C dJ1_charAt_3b067_1 0 rfl rfl ?_
  refine x_slen6 C dJ1_charAt_3b067_2 ?_
  refine x_callS (As := [.int (nI k), .int (nI 18)]) C (ok_J0_checkIndex_df160 k 18 hk (by decide)) ms_J0_checkIndex_df160 ml_J1_9 rfl rfl (Nat.le_of_ble_eq_true rfl) (hrm (rm := { frames := 0, cells := 0, slots := 0, locals := 0 }) hZ ⟨Nat.le_of_ble_eq_true rfl, Nat.le_of_ble_eq_true rfl⟩) (hcs hZ ⟨Nat.le_of_ble_eq_true rfl, Nat.le_of_ble_eq_true rfl⟩) dJ1_charAt_3b067_3 (fun w G' hp => ?_)
  obtain ⟨rfl, rfl⟩ := hp
  show hX z 0 0 G' [(0, .ref (zS z 6)), (1, .int (nI k))] 6 []
  refine x_aload_n C dJ1_charAt_3b067_6 0 rfl rfl ?_
  refine x_iload_n C dJ1_charAt_3b067_7 1 rfl rfl ?_
  refine x_sbt C hk dJ1_charAt_3b067_8 ?_
  refine x_sipush (v := nI 255) C dJ1_charAt_3b067_9 (by decide +kernel) ?_
  refine x_iand C dJ1_charAt_3b067_12 ?_
  refine x_i2c (v := hNm.getD k 0) C dJ1_charAt_3b067_13 ((by decide +kernel : ∀ k, k < 18 → (((hNm.getD k 0) &&& nI 255).toUInt32 % 65536).toInt32 = hNm.getD k 0) k hk) ?_
  exact x_nret C E ((by decide +kernel : ∀ k, k < 18 → narrow .char (.int (hNm.getD k 0)) = .int (hNm.getD k 0)) k hk) (Nat.le_of_ble_eq_true rfl) (Nat.le_of_ble_eq_true rfl) dJ1_charAt_3b067_14 ⟨rfl, rfl⟩
set_option maxRecDepth 100000 in
theorem mv_J0_charAt_5068e : hMv yJ0_charAt_5068e cJ0_charAt_5068e 2 (some .char) 1 := ⟨⟨lw_in3 (i := 92) rfl rfl, ini_J0, by decide +kernel, by decide +kernel, by decide +kernel⟩, lw_in3 (i := 90) (by decide +kernel) (by decide +kernel), lw_in3 (i := 91) (by decide +kernel) (by decide +kernel)⟩
set_option maxHeartbeats 4000000 in
set_option maxRecDepth 100000 in
theorem ok_J0_charAt_5068e {l : Launch} {a0 : Nat} {D : va_G} {sa : Nat → Nat} {G : hG} (k : Nat) (hk : k < 18) : hM l a0 D sa yJ0_charAt_5068e cJ0_charAt_5068e 2 (some .char) { frames := 3, cells := 0, slots := 0, locals := 64 } [.ref (sa 5), .int (nI k)] G (fun r G' => r = some (.int (hNm.getD k 0)) ∧ G' = G) := by
  refine hM.of (by decide +kernel) (Nat.le_of_ble_eq_true rfl) ?_
  intro z hl h0 hD hS hN C E
  subst hl; subst h0; subst hD; subst hS
  have C : hC z RJ0 cJ0_charAt_5068e := C
  have hZ := E.2.2.2.1
  show hX z 0 0 G [(0, .ref (zS z 5)), (1, .int (nI k))] 0 []
  refine x_aload_n C dJ0_charAt_5068e_0 0 rfl rfl ?_
  refine x_callStr (As := []) C ok_J0_isLatin1_aae02 mv_J0_isLatin1_aae02 ml_J0_492 rfl rfl rfl (Nat.le_of_ble_eq_true rfl) (hrm (rm := { frames := 0, cells := 0, slots := 0, locals := 0 }) hZ ⟨Nat.le_of_ble_eq_true rfl, Nat.le_of_ble_eq_true rfl⟩) (hcs hZ ⟨Nat.le_of_ble_eq_true rfl, Nat.le_of_ble_eq_true rfl⟩) dJ0_charAt_5068e_1 (fun v G' hp => ?_)
  obtain ⟨rfl, rfl⟩ := hp
  show hX z 0 0 G' [(0, .ref (zS z 5)), (1, .int (nI k))] 4 [.int 1]
  refine x_if_eq (tgt := 16) C dJ0_charAt_5068e_4 (by decide) (fun c => absurd c (by decide)) (fun _ => ?_)
  refine x_aload_n C dJ0_charAt_5068e_7 0 rfl rfl ?_
  refine x_sval C sl_J0_9 dJ0_charAt_5068e_8 ?_
  refine x_iload_n C dJ0_charAt_5068e_11 1 rfl rfl ?_
  refine x_callS (As := [.ref (zS z 6), .int (nI k)]) C (ok_J1_charAt_3b067 k hk) ms_J1_charAt_3b067 ml_J0_495 rfl rfl (Nat.le_of_ble_eq_true rfl) (hrm (rm := { frames := 0, cells := 0, slots := 0, locals := 0 }) hZ ⟨Nat.le_of_ble_eq_true rfl, Nat.le_of_ble_eq_true rfl⟩) (hcs hZ ⟨Nat.le_of_ble_eq_true rfl, Nat.le_of_ble_eq_true rfl⟩) dJ0_charAt_5068e_12 (fun w G2 hp => ?_)
  obtain ⟨rfl, rfl⟩ := hp
  show hX z 0 0 G2 [(0, .ref (zS z 5)), (1, .int (nI k))] 15 [.int (hNm.getD k 0)]
  exact x_nret C E ((by decide +kernel : ∀ k, k < 18 → narrow .char (.int (hNm.getD k 0)) = .int (hNm.getD k 0)) k hk) (Nat.le_of_ble_eq_true rfl) (Nat.le_of_ble_eq_true rfl) dJ0_charAt_5068e_15 ⟨rfl, rfl⟩
