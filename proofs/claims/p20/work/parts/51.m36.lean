/-! ===== the model's tag ===== -/
def i17 (J : Nat → Nat → Int32) (a : Nat) (s : Nat → Nat) : Prop := ∀ t, t < 17 → J a t = nI (s t)
theorem wr17 {J J1 : Nat → Int32} {j : Nat} {N s : Nat → Nat} (h : ∀ t, t < 17 → J t = nI (if t < j then N t else s t)) (e : J1 = upd J j (nI (N j))) : ∀ t, t < 17 → J1 t = nI (if t < j + 1 then N t else s t) := by
  intro t ht; rw [e]; unfold upd; by_cases c : t = j
  · rw [if_pos c, if_pos (by omega), c]
  · rw [if_neg c, h t ht]; by_cases c2 : t < j
    · rw [if_pos c2, if_pos (by omega)]
    · rw [if_neg c2, if_neg (by omega)]
theorem ad_b {s p : Nat → Nat} (hs : ∀ j, j < 17 → s j < 256) (hp : ∀ j, j < 17 → p j < 256) {j : Nat} (hj : j ≤ 17) : cyN 0 (fun i => s i + p i) j ≤ 512 := cyN_b (by omega) j (fun k hk => by have h1 := hs k (by omega); have h2 := hp k (by omega); omega)
set_option maxHeartbeats 4000000 in
set_option maxRecDepth 100000 in
theorem ok_X11_adds {l : Launch} {a0 : Nat} {D : va_G} {sa : Nat → Nat} {T : Nat → Option hKd} {I : Nat → Nat → Int32} {L : Nat → Nat → Int64} {R : Nat → Nat → Option Nat} {A : Nat → Nat} (mO : isM T R A a0) (s p : Nat → Nat) (hs : i17 I 17 s) (hp : i17 I 19 p) (bs : ∀ j, j < 17 → s j < 256) (bp : ∀ j, j < 17 → p j < 256) : hM l a0 D sa yX11_adds cX11_adds 3 none { frames := 0, cells := 0, slots := 0, locals := 0 } [.ref (A 63)] (T, I, L, R, A) (fun r G' => r = none ∧ ∃ I', G' = (T, I', L, R, A) ∧ i17 I' 17 (adF s p) ∧ fx [17] I I') := by
  refine hM.of (by decide +kernel) (Nat.le_of_ble_eq_true rfl) ?_
  intro z hl h0 hD hS hN C E
  subst hl; subst h0; subst hD; subst hS
  have C : hC z RX11 cX11_adds := C
  have hZ := E.2.2.2.1
  show hX z 0 0 (T, I, L, R, A) [(0, .ref (A 63))] 0 []
  refine x_iconst (v := nI 0) C dX11_adds_0 (by decide +kernel) ?_
  refine x_istore_n (lv' := [(1, .int (nI 0)), (0, .ref (A 63))]) C dX11_adds_1 rfl (Nat.lt_of_lt_of_eq (by decide) hN.symm) rfl ?_
  refine x_iconst (v := nI 0) C dX11_adds_2 (by decide +kernel) ?_
  refine x_istore_n (lv' := [(2, .int (nI 0)), (1, .int (nI 0)), (0, .ref (A 63))]) C dX11_adds_3 rfl (Nat.lt_of_lt_of_eq (by decide) hN.symm) rfl ?_
  have L4 : ∀ (fuel_ : Nat) (j : Nat) (u : Nat) (J : Nat → Nat → Int32), 17 - j < fuel_ → (j ≤ 17) → (u = cyN 0 (fun i => s i + p i) j) → (∀ t, t < 17 → J 17 t = nI (if t < j then adF s p t else s t)) → (fx [17] I J) → hX z 0 0 (T, J, L, R, A) [(2, .int (nI j)), (1, .int (nI u)), (0, .ref (A 63))] 4 [] := by
    intro fuel_
    induction fuel_ with
    | zero => intro j u J hmz; exact absurd hmz (Nat.not_lt_zero _)
    | succ fuel_ ih4 =>
      intro j u J hmz hj hu hS fJ
      have hub : u ≤ 512 := by rw [hu]; exact ad_b bs bp hj
      refine x_iload_n C dX11_adds_4 0 rfl rfl ?_
      refine x_bipush (v := nI 17) C dX11_adds_5 (by decide +kernel) ?_
      refine x_icmp_geN (tgt := 48) C (by omega) (by omega) dX11_adds_7 (by decide) (fun c7 => ?_) (fun c7 => ?_)
      · exact x_vret C E (Nat.le_of_ble_eq_true rfl) (Nat.le_of_ble_eq_true rfl) dX11_adds_48 (⟨rfl, J, rfl, fun t ht => by rw [hS t ht, if_pos (by omega)], fJ⟩)
      · have hbs := bs j (by omega)
        have hbp := bp j (by omega)
        refine x_iload_n C dX11_adds_10 1 rfl rfl ?_
        refine x_aload_n C dX11_adds_11 2 rfl rfl ?_
        refine x_getrN C fl_X11_131 mO.1 rfl (mO.2.2 17 _ rfl).1 dX11_adds_12 ?_
        refine x_iload_n C dX11_adds_15 0 rfl rfl ?_
        refine x_ialdN C (mO.2.2 17 _ rfl).2.1 (by omega) (by omega) dX11_adds_16 ?_
        refine x_eqi (y := nI (s j)) (by rw [hS j (by omega), if_neg (by omega)]) ?_
        refine x_aload_n C dX11_adds_17 2 rfl rfl ?_
        refine x_getrN C fl_X11_137 mO.1 rfl (mO.2.2 19 _ rfl).1 dX11_adds_18 ?_
        refine x_iload_n C dX11_adds_21 0 rfl rfl ?_
        refine x_ialdN C (mO.2.2 19 _ rfl).2.1 (by omega) (by omega) dX11_adds_22 ?_
        refine x_eqi (y := nI (p j)) (by rw [fJ 19 (by simp)]; exact hp j (by omega)) ?_
        refine x_iaddN C dX11_adds_23 ?_
        refine x_iaddN C dX11_adds_24 ?_
        refine x_istore_n (lv' := [(1, .int (nI (u + (s j + (p j))))), (2, .int (nI j)), (0, .ref (A 63))]) C dX11_adds_25 rfl (Nat.lt_of_lt_of_eq (by decide) hN.symm) rfl ?_
        refine x_aload_n C dX11_adds_26 2 rfl rfl ?_
        refine x_getrN C fl_X11_131 mO.1 rfl (mO.2.2 17 _ rfl).1 dX11_adds_27 ?_
        refine x_iload_n C dX11_adds_30 1 rfl rfl ?_
        refine x_iload_n C dX11_adds_31 0 rfl rfl ?_
        refine x_sipush (v := nI 255) C dX11_adds_32 (by decide +kernel) ?_
        refine x_iandN (q := 8) C (by omega) (by omega) rfl dX11_adds_35 ?_
        refine x_iastN C (mO.2.2 17 _ rfl).2.1 (mO.2.2 17 _ rfl).2.2 (by omega) (by omega) dX11_adds_36 (fun I1 eI1 => ?_)
        refine x_iload_n C dX11_adds_37 0 rfl rfl ?_
        refine x_bipush (v := nI 8) C dX11_adds_38 (by decide +kernel) ?_
        refine x_ishrN C (by omega) (by omega) dX11_adds_40 ?_
        refine x_istore_n (lv' := [(1, .int (nI ((u + (s j + (p j))) / 2 ^ 8))), (2, .int (nI j)), (0, .ref (A 63))]) C dX11_adds_41 rfl (Nat.lt_of_lt_of_eq (by decide) hN.symm) rfl ?_
        refine x_iinc (v := nI (j + 1)) (lv' := [(2, .int (nI (j + 1))), (1, .int (nI ((u + (s j + (p j))) / 2 ^ 8))), (0, .ref (A 63))]) C dX11_adds_42 1 rfl (nI_inc 1) (Nat.lt_of_lt_of_eq (by decide) hN.symm) rfl ?_
        refine x_goto (tgt := 4) C dX11_adds_45 (by decide) ?_
        refine x_sub (lv' := _) [0, 1, 2] rfl ?_
        exact ih4 (j + 1) ((u + (s j + (p j))) / 2 ^ 8) I1 (by omega) (by omega) (by rw [hu]; rfl) (wr17 hS (by rw [eI1, up_eq, hu]; rfl)) (by rw [eI1]; exact fJ.up (by simp))
  refine x_sub (lv' := _) [0, 1, 2] rfl ?_
  exact L4 _ 0 0 I (Nat.lt_succ_self _) (by omega) rfl (fun t ht => by rw [if_neg (by omega)]; exact hs t ht) fx.rf

theorem ml_mid {s f : Nat → Nat} {J : Nat → Int32} {j : Nat} (h : ∀ t, t < 17 → J t = nI (if t < j then cyB 0 (mlV s f) t else s t)) (hj : j = 16) : ∀ t, t < 17 → upd J 16 (nI (mlU s f % 4)) t = nI (if t < 16 then cyB 0 (mlV s f) t else mlU s f % 4) := by
  intro t ht; subst hj; unfold upd; by_cases c : t = 16
  · rw [if_pos c, if_neg (by omega)]
  · rw [if_neg c, h t ht, if_pos (by omega), if_pos (by omega)]
theorem ml_end {s f : Nat → Nat} {J : Nat → Int32} {j u : Nat} (h : ∀ t, t < 17 → J t = nI (if t < j then cyB (5 * (mlU s f / 4)) (cyB 0 (mlV s f)) t else (if t < 16 then cyB 0 (mlV s f) t else mlU s f % 4))) (hj : j = 16) (hu : u = cyN (5 * (mlU s f / 4)) (cyB 0 (mlV s f)) j) : ∀ t, t < 17 → upd J 16 (nI (mlU s f % 4 + u)) t = nI (mlF s f t) := by
  intro t ht; subst hj; unfold upd mlF; by_cases c : t = 16
  · rw [if_pos c, if_neg (by omega), hu]
  · rw [if_neg c, h t ht, if_pos (by omega), if_pos (by omega)]
set_option maxHeartbeats 4000000 in
set_option maxRecDepth 100000 in
theorem ok_X11_multiplies {l : Launch} {a0 : Nat} {D : va_G} {sa : Nat → Nat} {T : Nat → Option hKd} {I : Nat → Nat → Int32} {L : Nat → Nat → Int64} {R : Nat → Nat → Option Nat} {A : Nat → Nat} (mO : isM T R A a0) (s f : Nat → Nat) (hs : i17 I 17 s) (hf : i17 I 18 f) (bs : ∀ j, j < 17 → s j < 256) (bf : ∀ j, j < 17 → f j < 256) : hM l a0 D sa yX11_multiplies cX11_multiplies 4 none { frames := 0, cells := 0, slots := 0, locals := 0 } [.ref (A 63)] (T, I, L, R, A) (fun r G' => r = none ∧ ∃ I', G' = (T, I', L, R, A) ∧ i17 I' 17 (mlF s f) ∧ fx [17, 20] I I') := by
  refine hM.of (by decide +kernel) (Nat.le_of_ble_eq_true rfl) ?_
  intro z hl h0 hD hS hN C E
  subst hl; subst h0; subst hD; subst hS
  have C : hC z RX11 cX11_multiplies := C
  have hZ := E.2.2.2.1
  show hX z 0 0 (T, I, L, R, A) [(0, .ref (A 63))] 0 []
  have hUb := mlU_b bs bf
  refine x_iconst (v := nI 0) C dX11_multiplies_0 (by decide +kernel) ?_
  refine x_istore_n (lv' := [(1, .int (nI 0)), (0, .ref (A 63))]) C dX11_multiplies_1 rfl (Nat.lt_of_lt_of_eq (by decide) hN.symm) rfl ?_
  have L2 : ∀ (fuel_ : Nat) (i : Nat) (J : Nat → Nat → Int32), 17 - i < fuel_ → (i ≤ 17) → (∀ t, t < i → J 20 t = nI (mlV s f t)) → (fx [20] I J) → hX z 0 0 (T, J, L, R, A) [(1, .int (nI i)), (0, .ref (A 63))] 2 [] := by
    intro fuel_
    induction fuel_ with
    | zero => intro i J hmz; exact absurd hmz (Nat.not_lt_zero _)
    | succ fuel_ ih2 =>
      intro i J hmz hi hV fJ
      refine x_iload_n C dX11_multiplies_2 0 rfl rfl ?_
      refine x_bipush (v := nI 17) C dX11_multiplies_3 (by decide +kernel) ?_
      refine x_icmp_geN (tgt := 78) C (by omega) (by omega) dX11_multiplies_5 (by decide) (fun c5 => ?_) (fun c5 => ?_)
      · refine x_iconst (v := nI 0) C dX11_multiplies_78 (by decide +kernel) ?_
        refine x_istore_n (lv' := [(1, .int (nI 0)), (0, .ref (A 63))]) C dX11_multiplies_79 rfl (Nat.lt_of_lt_of_eq (by decide) hN.symm) rfl ?_
        refine x_iconst (v := nI 0) C dX11_multiplies_80 (by decide +kernel) ?_
        refine x_istore_n (lv' := [(2, .int (nI 0)), (1, .int (nI 0)), (0, .ref (A 63))]) C dX11_multiplies_81 rfl (Nat.lt_of_lt_of_eq (by decide) hN.symm) rfl ?_
        have L82 : ∀ (fuel_ : Nat) (j : Nat) (u : Nat) (J : Nat → Nat → Int32), 16 - j < fuel_ → (j ≤ 16) → (u = cyN 0 (mlV s f) j) → (∀ t, t < 17 → J 17 t = nI (if t < j then (cyB 0 (mlV s f)) t else s t)) → (∀ t, t < 17 → J 20 t = nI (mlV s f t)) → (fx [17, 20] I J) → hX z 0 0 (T, J, L, R, A) [(2, .int (nI j)), (1, .int (nI u)), (0, .ref (A 63))] 82 [] := by
          intro fuel_
          induction fuel_ with
          | zero => intro j u J hmz; exact absurd hmz (Nat.not_lt_zero _)
          | succ fuel_ ih82 =>
            intro j u J hmz hj hu hS hV fJ
            have hub : u ≤ 353736000 := by rw [hu]; exact mlc_b bs bf hj
            have hvb := mlV_b bs bf (show j < 17 by omega)
            refine x_iload_n C dX11_multiplies_82 0 rfl rfl ?_
            refine x_bipush (v := nI 16) C dX11_multiplies_83 (by decide +kernel) ?_
            refine x_icmp_geN (tgt := 119) C (by omega) (by omega) dX11_multiplies_85 (by decide) (fun c85 => ?_) (fun c85 => ?_)
            · refine x_iload_n C dX11_multiplies_119 1 rfl rfl ?_
              refine x_aload_n C dX11_multiplies_120 2 rfl rfl ?_
              refine x_getrN C fl_X11_140 mO.1 rfl (mO.2.2 20 _ rfl).1 dX11_multiplies_121 ?_
              refine x_bipush (v := nI 16) C dX11_multiplies_124 (by decide +kernel) ?_
              refine x_ialdN C (mO.2.2 20 _ rfl).2.1 (by omega) (by omega) dX11_multiplies_126 ?_
              refine x_eqi (y := nI (mlV s f 16)) (hV 16 (by omega)) ?_
              refine x_iaddN C dX11_multiplies_127 ?_
              refine x_eqi (y := nI (mlU s f)) (by rw [hu, show j = 16 by omega]; rfl) ?_
              refine x_istore_n (lv' := [(1, .int (nI (mlU s f))), (2, .int (nI j)), (0, .ref (A 63))]) C dX11_multiplies_128 rfl (Nat.lt_of_lt_of_eq (by decide) hN.symm) rfl ?_
              refine x_aload_n C dX11_multiplies_129 2 rfl rfl ?_
              refine x_getrN C fl_X11_131 mO.1 rfl (mO.2.2 17 _ rfl).1 dX11_multiplies_130 ?_
              refine x_bipush (v := nI 16) C dX11_multiplies_133 (by decide +kernel) ?_
              refine x_iload_n C dX11_multiplies_135 0 rfl rfl ?_
              refine x_iconst (v := nI 3) C dX11_multiplies_136 (by decide +kernel) ?_
              refine x_iandN (q := 2) C (by omega) (by omega) rfl dX11_multiplies_137 ?_
              refine x_iastN C (mO.2.2 17 _ rfl).2.1 (mO.2.2 17 _ rfl).2.2 (by omega) (by omega) dX11_multiplies_138 (fun I1 eI1 => ?_)
              refine x_iconst (v := nI 5) C dX11_multiplies_139 (by decide +kernel) ?_
              refine x_iload_n C dX11_multiplies_140 0 rfl rfl ?_
              refine x_iconst (v := nI 2) C dX11_multiplies_141 (by decide +kernel) ?_
              refine x_ishrN C (by omega) (by omega) dX11_multiplies_142 ?_
              refine x_imulN C dX11_multiplies_143 ?_
              refine x_eqi (y := nI (5 * (mlU s f / 4))) rfl ?_
              refine x_istore_n (lv' := [(1, .int (nI (5 * (mlU s f / 4)))), (2, .int (nI j)), (0, .ref (A 63))]) C dX11_multiplies_144 rfl (Nat.lt_of_lt_of_eq (by decide) hN.symm) rfl ?_
              refine x_iconst (v := nI 0) C dX11_multiplies_145 (by decide +kernel) ?_
              refine x_istore_n (lv' := [(2, .int (nI 0)), (1, .int (nI (5 * (mlU s f / 4)))), (0, .ref (A 63))]) C dX11_multiplies_146 rfl (Nat.lt_of_lt_of_eq (by decide) hN.symm) rfl ?_
              have L147 : ∀ (fuel_ : Nat) (j : Nat) (u : Nat) (J : Nat → Nat → Int32), 16 - j < fuel_ → (j ≤ 16) → (u = cyN (5 * (mlU s f / 4)) (cyB 0 (mlV s f)) j) → (∀ t, t < 17 → J 17 t = nI (if t < j then cyB (5 * (mlU s f / 4)) (cyB 0 (mlV s f)) t else (if t < 16 then cyB 0 (mlV s f) t else mlU s f % 4))) → (fx [17, 20] I J) → hX z 0 0 (T, J, L, R, A) [(2, .int (nI j)), (1, .int (nI u)), (0, .ref (A 63))] 147 [] := by
                intro fuel_
                induction fuel_ with
                | zero => intro j u J hmz; exact absurd hmz (Nat.not_lt_zero _)
                | succ fuel_ ih147 =>
                  intro j u J hmz hj hu hS fJ
                  have hub : u ≤ 884340000 := by rw [hu]; exact cyN_b (by omega) j (fun k _ => by have := cyB_lt 0 (mlV s f) k; omega)
                  have hvb := cyB_lt 0 (mlV s f) j
                  refine x_iload_n C dX11_multiplies_147 0 rfl rfl ?_
                  refine x_bipush (v := nI 16) C dX11_multiplies_148 (by decide +kernel) ?_
                  refine x_icmp_geN (tgt := 184) C (by omega) (by omega) dX11_multiplies_150 (by decide) (fun c150 => ?_) (fun c150 => ?_)
                  · refine x_aload_n C dX11_multiplies_184 2 rfl rfl ?_
                    refine x_getrN C fl_X11_131 mO.1 rfl (mO.2.2 17 _ rfl).1 dX11_multiplies_185 ?_
                    refine x_bipush (v := nI 16) C dX11_multiplies_188 (by decide +kernel) ?_
                    refine x_dup2 C dX11_multiplies_190 rfl rfl ?_
                    refine x_ialdN C (mO.2.2 17 _ rfl).2.1 (by omega) (by omega) dX11_multiplies_191 ?_
                    refine x_eqi (y := nI (mlU s f % 4)) (by rw [hS 16 (by omega), if_neg (by omega), if_neg (by omega)]) ?_
                    refine x_iload_n C dX11_multiplies_192 1 rfl rfl ?_
                    refine x_iaddN C dX11_multiplies_193 ?_
                    refine x_iastN C (mO.2.2 17 _ rfl).2.1 (mO.2.2 17 _ rfl).2.2 (by omega) (by omega) dX11_multiplies_194 (fun I2 eI2 => ?_)
                    exact x_vret C E (Nat.le_of_ble_eq_true rfl) (Nat.le_of_ble_eq_true rfl) dX11_multiplies_195 (⟨rfl, _, rfl, fun t ht => by rw [eI2, up_eq]; exact ml_end hS (by omega) hu t ht, by rw [eI2]; exact fJ.up (by simp)⟩)
                  · refine x_iload_n C dX11_multiplies_153 1 rfl rfl ?_
                    refine x_aload_n C dX11_multiplies_154 2 rfl rfl ?_
                    refine x_getrN C fl_X11_131 mO.1 rfl (mO.2.2 17 _ rfl).1 dX11_multiplies_155 ?_
                    refine x_iload_n C dX11_multiplies_158 0 rfl rfl ?_
                    refine x_ialdN C (mO.2.2 17 _ rfl).2.1 (by omega) (by omega) dX11_multiplies_159 ?_
                    refine x_eqi (y := nI (cyB 0 (mlV s f) j)) (by rw [hS j (by omega), if_neg (by omega), if_pos (by omega)]) ?_
                    refine x_iaddN C dX11_multiplies_160 ?_
                    refine x_istore_n (lv' := [(1, .int (nI (u + (cyB 0 (mlV s f) j)))), (2, .int (nI j)), (0, .ref (A 63))]) C dX11_multiplies_161 rfl (Nat.lt_of_lt_of_eq (by decide) hN.symm) rfl ?_
                    refine x_aload_n C dX11_multiplies_162 2 rfl rfl ?_
                    refine x_getrN C fl_X11_131 mO.1 rfl (mO.2.2 17 _ rfl).1 dX11_multiplies_163 ?_
                    refine x_iload_n C dX11_multiplies_166 1 rfl rfl ?_
                    refine x_iload_n C dX11_multiplies_167 0 rfl rfl ?_
                    refine x_sipush (v := nI 255) C dX11_multiplies_168 (by decide +kernel) ?_
                    refine x_iandN (q := 8) C (by omega) (by omega) rfl dX11_multiplies_171 ?_
                    refine x_iastN C (mO.2.2 17 _ rfl).2.1 (mO.2.2 17 _ rfl).2.2 (by omega) (by omega) dX11_multiplies_172 (fun I3 eI3 => ?_)
                    refine x_iload_n C dX11_multiplies_173 0 rfl rfl ?_
                    refine x_bipush (v := nI 8) C dX11_multiplies_174 (by decide +kernel) ?_
                    refine x_ishrN C (by omega) (by omega) dX11_multiplies_176 ?_
                    refine x_istore_n (lv' := [(1, .int (nI ((u + (cyB 0 (mlV s f) j)) / 2 ^ 8))), (2, .int (nI j)), (0, .ref (A 63))]) C dX11_multiplies_177 rfl (Nat.lt_of_lt_of_eq (by decide) hN.symm) rfl ?_
                    refine x_iinc (v := nI (j + 1)) (lv' := [(2, .int (nI (j + 1))), (1, .int (nI ((u + (cyB 0 (mlV s f) j)) / 2 ^ 8))), (0, .ref (A 63))]) C dX11_multiplies_178 1 rfl (nI_inc 1) (Nat.lt_of_lt_of_eq (by decide) hN.symm) rfl ?_
                    refine x_goto (tgt := 147) C dX11_multiplies_181 (by decide) ?_
                    refine x_sub (lv' := _) [0, 1, 2] rfl ?_
                    exact ih147 (j + 1) ((u + (cyB 0 (mlV s f) j)) / 2 ^ 8) I3 (by omega) (by omega) (by rw [hu]; rfl) (wr17 (s := fun t => (if t < 16 then cyB 0 (mlV s f) t else mlU s f % 4)) hS (by rw [eI3, up_eq, hu]; rfl)) (by rw [eI3]; exact fJ.up (by simp))
              refine x_sub (lv' := _) [0, 1, 2] rfl ?_
              exact L147 _ 0 (5 * (mlU s f / 4)) I1 (Nat.lt_succ_self _) (by omega) rfl (fun t ht => by rw [if_neg (by omega), eI1, up_eq]; exact ml_mid hS (by omega) t ht) (by rw [eI1]; exact fJ.up (by simp))
            · refine x_iload_n C dX11_multiplies_88 1 rfl rfl ?_
              refine x_aload_n C dX11_multiplies_89 2 rfl rfl ?_
              refine x_getrN C fl_X11_140 mO.1 rfl (mO.2.2 20 _ rfl).1 dX11_multiplies_90 ?_
              refine x_iload_n C dX11_multiplies_93 0 rfl rfl ?_
              refine x_ialdN C (mO.2.2 20 _ rfl).2.1 (by omega) (by omega) dX11_multiplies_94 ?_
              refine x_eqi (y := nI (mlV s f j)) (hV j (by omega)) ?_
              refine x_iaddN C dX11_multiplies_95 ?_
              refine x_istore_n (lv' := [(1, .int (nI (u + (mlV s f j)))), (2, .int (nI j)), (0, .ref (A 63))]) C dX11_multiplies_96 rfl (Nat.lt_of_lt_of_eq (by decide) hN.symm) rfl ?_
              refine x_aload_n C dX11_multiplies_97 2 rfl rfl ?_
              refine x_getrN C fl_X11_131 mO.1 rfl (mO.2.2 17 _ rfl).1 dX11_multiplies_98 ?_
              refine x_iload_n C dX11_multiplies_101 1 rfl rfl ?_
              refine x_iload_n C dX11_multiplies_102 0 rfl rfl ?_
              refine x_sipush (v := nI 255) C dX11_multiplies_103 (by decide +kernel) ?_
              refine x_iandN (q := 8) C (by omega) (by omega) rfl dX11_multiplies_106 ?_
              refine x_iastN C (mO.2.2 17 _ rfl).2.1 (mO.2.2 17 _ rfl).2.2 (by omega) (by omega) dX11_multiplies_107 (fun I4 eI4 => ?_)
              refine x_iload_n C dX11_multiplies_108 0 rfl rfl ?_
              refine x_bipush (v := nI 8) C dX11_multiplies_109 (by decide +kernel) ?_
              refine x_ishrN C (by omega) (by omega) dX11_multiplies_111 ?_
              refine x_istore_n (lv' := [(1, .int (nI ((u + (mlV s f j)) / 2 ^ 8))), (2, .int (nI j)), (0, .ref (A 63))]) C dX11_multiplies_112 rfl (Nat.lt_of_lt_of_eq (by decide) hN.symm) rfl ?_
              refine x_iinc (v := nI (j + 1)) (lv' := [(2, .int (nI (j + 1))), (1, .int (nI ((u + (mlV s f j)) / 2 ^ 8))), (0, .ref (A 63))]) C dX11_multiplies_113 1 rfl (nI_inc 1) (Nat.lt_of_lt_of_eq (by decide) hN.symm) rfl ?_
              refine x_goto (tgt := 82) C dX11_multiplies_116 (by decide) ?_
              refine x_sub (lv' := _) [0, 1, 2] rfl ?_
              exact ih82 (j + 1) ((u + (mlV s f j)) / 2 ^ 8) I4 (by omega) (by omega) (by rw [hu]; rfl) (wr17 hS (by rw [eI4, up_eq, hu]; rfl)) (fun t ht => by rw [eI4, up_ne _ _ (by decide)]; exact hV t ht) (by rw [eI4]; exact fJ.up (by simp))
        refine x_sub (lv' := _) [0, 1, 2] rfl ?_
        exact L82 _ 0 0 J (Nat.lt_succ_self _) (by omega) rfl (fun t ht => by rw [if_neg (by omega), fJ 17 (by simp)]; exact hs t ht) (fun t ht => hV t (by omega)) (fJ.wk (by simp))
      · refine x_iconst (v := nI 0) C dX11_multiplies_8 (by decide +kernel) ?_
        refine x_istore_n (lv' := [(2, .int (nI 0)), (1, .int (nI i)), (0, .ref (A 63))]) C dX11_multiplies_9 rfl (Nat.lt_of_lt_of_eq (by decide) hN.symm) rfl ?_
        refine x_iconst (v := nI 0) C dX11_multiplies_10 (by decide +kernel) ?_
        refine x_istore_n (lv' := [(3, .int (nI 0)), (2, .int (nI 0)), (1, .int (nI i)), (0, .ref (A 63))]) C dX11_multiplies_11 rfl (Nat.lt_of_lt_of_eq (by decide) hN.symm) rfl ?_
        have L12 : ∀ (fuel_ : Nat) (j : Nat) (v : Nat), 17 - j < fuel_ → (j ≤ 17) → (v = mlT s f i j) → hX z 0 0 (T, J, L, R, A) [(3, .int (nI j)), (2, .int (nI v)), (1, .int (nI i)), (0, .ref (A 63))] 12 [] := by
          intro fuel_
          induction fuel_ with
          | zero => intro j v hmz; exact absurd hmz (Nat.not_lt_zero _)
          | succ fuel_ ih12 =>
            intro j v hmz hj hv
            refine x_iload_n C dX11_multiplies_12 0 rfl rfl ?_
            refine x_bipush (v := nI 17) C dX11_multiplies_13 (by decide +kernel) ?_
            refine x_icmp_geN (tgt := 65) C (by omega) (by omega) dX11_multiplies_15 (by decide) (fun c15 => ?_) (fun c15 => ?_)
            · refine x_aload_n C dX11_multiplies_65 3 rfl rfl ?_
              refine x_getrN C fl_X11_140 mO.1 rfl (mO.2.2 20 _ rfl).1 dX11_multiplies_66 ?_
              refine x_iload_n C dX11_multiplies_69 2 rfl rfl ?_
              refine x_iload_n C dX11_multiplies_70 1 rfl rfl ?_
              refine x_iastN C (mO.2.2 20 _ rfl).2.1 (mO.2.2 20 _ rfl).2.2 (by omega) (by omega) dX11_multiplies_71 (fun I5 eI5 => ?_)
              refine x_iinc (v := nI (i + 1)) (lv' := [(1, .int (nI (i + 1))), (3, .int (nI j)), (2, .int (nI v)), (0, .ref (A 63))]) C dX11_multiplies_72 2 rfl (nI_inc 1) (Nat.lt_of_lt_of_eq (by decide) hN.symm) rfl ?_
              refine x_goto (tgt := 2) C dX11_multiplies_75 (by decide) ?_
              refine x_sub (lv' := _) [0, 3] rfl ?_
              exact ih2 (i + 1) I5 (by omega) (by omega) (g_ap (f := fun t => nI (mlV s f t)) hV (by rw [eI5, up_eq, hv, show j = 17 by omega]; rfl)) (by rw [eI5]; exact fJ.up (by simp))
            · refine x_iload_n C dX11_multiplies_18 1 rfl rfl ?_
              refine x_aload_n C dX11_multiplies_19 3 rfl rfl ?_
              refine x_getrN C fl_X11_131 mO.1 rfl (mO.2.2 17 _ rfl).1 dX11_multiplies_20 ?_
              refine x_iload_n C dX11_multiplies_23 0 rfl rfl ?_
              refine x_ialdN C (mO.2.2 17 _ rfl).2.1 (by omega) (by omega) dX11_multiplies_24 ?_
              refine x_eqi (y := nI (s j)) (by rw [fJ 17 (by simp)]; exact hs j (by omega)) ?_
              refine x_iload_n C dX11_multiplies_25 0 rfl rfl ?_
              refine x_iload_n C dX11_multiplies_26 2 rfl rfl ?_
              refine x_icmp_gtN (tgt := 41) C (by omega) (by omega) dX11_multiplies_27 (by decide) (fun c27 => ?_) (fun c27 => ?_)
              · refine x_sipush (v := nI 320) C dX11_multiplies_41 (by decide +kernel) ?_
                refine x_aload_n C dX11_multiplies_44 3 rfl rfl ?_
                refine x_getrN C fl_X11_134 mO.1 rfl (mO.2.2 18 _ rfl).1 dX11_multiplies_45 ?_
                refine x_iload_n C dX11_multiplies_48 2 rfl rfl ?_
                refine x_bipush (v := nI 17) C dX11_multiplies_49 (by decide +kernel) ?_
                refine x_iaddN C dX11_multiplies_51 ?_
                refine x_iload_n C dX11_multiplies_52 0 rfl rfl ?_
                refine x_isubN C (by omega) dX11_multiplies_53 ?_
                refine x_ialdN C (mO.2.2 18 _ rfl).2.1 (by omega) (by omega) dX11_multiplies_54 ?_
                refine x_eqi (y := nI (f (i + 17 - j))) (by rw [fJ 18 (by simp)]; exact hf _ (by omega)) ?_
                refine x_imulN C dX11_multiplies_55 ?_
                refine x_imulN C dX11_multiplies_56 ?_
                refine x_iaddN C dX11_multiplies_57 ?_
                refine x_istore_n (lv' := [(2, .int (nI (v + ((s j) * (320 * (f (i + 17 - j))))))), (3, .int (nI j)), (1, .int (nI i)), (0, .ref (A 63))]) C dX11_multiplies_58 rfl (Nat.lt_of_lt_of_eq (by decide) hN.symm) rfl ?_
                refine x_iinc (v := nI (j + 1)) (lv' := [(3, .int (nI (j + 1))), (2, .int (nI (v + ((s j) * (320 * (f (i + 17 - j))))))), (1, .int (nI i)), (0, .ref (A 63))]) C dX11_multiplies_59 1 rfl (nI_inc 1) (Nat.lt_of_lt_of_eq (by decide) hN.symm) rfl ?_
                refine x_goto (tgt := 12) C dX11_multiplies_62 (by decide) ?_
                refine x_sub (lv' := _) [0, 1, 2, 3] rfl ?_
                exact ih12 (j + 1) (v + ((s j) * (320 * (f (i + 17 - j))))) (by omega) (by omega) (by rw [hv]; simp only [mlT, mlG]; rw [if_neg (by omega)])
              · refine x_aload_n C dX11_multiplies_30 3 rfl rfl ?_
                refine x_getrN C fl_X11_134 mO.1 rfl (mO.2.2 18 _ rfl).1 dX11_multiplies_31 ?_
                refine x_iload_n C dX11_multiplies_34 2 rfl rfl ?_
                refine x_iload_n C dX11_multiplies_35 0 rfl rfl ?_
                refine x_isubN C (by omega) dX11_multiplies_36 ?_
                refine x_ialdN C (mO.2.2 18 _ rfl).2.1 (by omega) (by omega) dX11_multiplies_37 ?_
                refine x_eqi (y := nI (f (i - j))) (by rw [fJ 18 (by simp)]; exact hf _ (by omega)) ?_
                refine x_goto (tgt := 56) C dX11_multiplies_38 (by decide) ?_
                refine x_imulN C dX11_multiplies_56 ?_
                refine x_iaddN C dX11_multiplies_57 ?_
                refine x_istore_n (lv' := [(2, .int (nI (v + ((s j) * (f (i - j)))))), (3, .int (nI j)), (1, .int (nI i)), (0, .ref (A 63))]) C dX11_multiplies_58 rfl (Nat.lt_of_lt_of_eq (by decide) hN.symm) rfl ?_
                refine x_iinc (v := nI (j + 1)) (lv' := [(3, .int (nI (j + 1))), (2, .int (nI (v + ((s j) * (f (i - j)))))), (1, .int (nI i)), (0, .ref (A 63))]) C dX11_multiplies_59 1 rfl (nI_inc 1) (Nat.lt_of_lt_of_eq (by decide) hN.symm) rfl ?_
                refine x_goto (tgt := 12) C dX11_multiplies_62 (by decide) ?_
                refine x_sub (lv' := _) [0, 1, 2, 3] rfl ?_
                exact ih12 (j + 1) (v + ((s j) * (f (i - j)))) (by omega) (by omega) (by rw [hv]; simp only [mlT, mlG]; rw [if_pos (by omega)])
        refine x_sub (lv' := _) [0, 1, 2, 3] rfl ?_
        exact L12 _ 0 0 (Nat.lt_succ_self _) (by omega) rfl
  refine x_sub (lv' := _) [0, 1] rfl ?_
  exact L2 _ 0 I (Nat.lt_succ_self _) (by omega) (fun t h => absurd h (by omega)) fx.rf

def lgB (v k : Nat) : Nat := if k < 4 then v / 2 ^ (8 * k) % 256 else 0
set_option maxHeartbeats 4000000 in
set_option maxRecDepth 100000 in
theorem ok_X11_tellsLong {l : Launch} {a0 : Nat} {D : va_G} {sa : Nat → Nat} {T : Nat → Option hKd} {I : Nat → Nat → Int32} {L : Nat → Nat → Int64} {R : Nat → Nat → Option Nat} {A : Nat → Nat} (mO : isM T R A a0) (at_ v : Nat) (hat : at_ + 8 ≤ 200) (hv : v < 2 ^ 31) : hM l a0 D sa yX11_tellsLong cX11_tellsLong 4 none { frames := 0, cells := 0, slots := 0, locals := 0 } [.ref (A 63), .int (nI at_), .int (nI v)] (T, I, L, R, A) (fun r G' => r = none ∧ G' = (T, va_up I 22 (fun t => if at_ ≤ t ∧ t < at_ + 8 then nI (lgB v (t - at_)) else I 22 t), L, R, A)) := by
  refine hM.of (by decide +kernel) (Nat.le_of_ble_eq_true rfl) ?_
  intro z hl h0 hD hS hN C E
  subst hl; subst h0; subst hD; subst hS
  have C : hC z RX11 cX11_tellsLong := C
  have hZ := E.2.2.2.1
  show hX z 0 0 (T, I, L, R, A) [(0, .ref (A 63)), (1, .int (nI at_)), (2, .int (nI v))] 0 []
  refine x_iconst (v := nI 0) C dX11_tellsLong_0 (by decide +kernel) ?_
  refine x_istore_n (lv' := [(3, .int (nI 0)), (0, .ref (A 63)), (1, .int (nI at_)), (2, .int (nI v))]) C dX11_tellsLong_1 rfl (Nat.lt_of_lt_of_eq (by decide) hN.symm) rfl ?_
  have L2 : ∀ (fuel_ : Nat) (k : Nat) (J : Nat → Nat → Int32), 8 - k < fuel_ → (k ≤ 8) → (J = va_up I 22 (fun t => if at_ ≤ t ∧ t < at_ + k then (fun j => nI (lgB v j)) (t - at_) else I 22 t)) → hX z 0 0 (T, J, L, R, A) [(3, .int (nI k)), (0, .ref (A 63)), (1, .int (nI at_)), (2, .int (nI v))] 2 [] := by
    intro fuel_
    induction fuel_ with
    | zero => intro k J hmz; exact absurd hmz (Nat.not_lt_zero _)
    | succ fuel_ ih2 =>
      intro k J hmz hk hJ
      refine x_iload_n C dX11_tellsLong_2 0 rfl rfl ?_
      refine x_bipush (v := nI 8) C dX11_tellsLong_3 (by decide +kernel) ?_
      refine x_icmp_geN (tgt := 41) C (by omega) (by omega) dX11_tellsLong_5 (by decide) (fun c5 => ?_) (fun c5 => ?_)
      · exact x_vret C E (Nat.le_of_ble_eq_true rfl) (Nat.le_of_ble_eq_true rfl) dX11_tellsLong_41 (⟨rfl, by rw [hJ, show k = 8 by omega]⟩)
      · refine x_aload_n C dX11_tellsLong_8 1 rfl rfl ?_
        refine x_getrN C fl_X11_146 mO.1 rfl (mO.2.2 22 _ rfl).1 dX11_tellsLong_9 ?_
        refine x_iload_n C dX11_tellsLong_12 2 rfl rfl ?_
        refine x_iload_n C dX11_tellsLong_13 0 rfl rfl ?_
        refine x_iaddN C dX11_tellsLong_14 ?_
        refine x_iload_n C dX11_tellsLong_15 0 rfl rfl ?_
        refine x_iconst (v := nI 4) C dX11_tellsLong_16 (by decide +kernel) ?_
        refine x_icmp_geN (tgt := 33) C (by omega) (by omega) dX11_tellsLong_17 (by decide) (fun c17 => ?_) (fun c17 => ?_)
        · refine x_iconst (v := nI 0) C dX11_tellsLong_33 (by decide +kernel) ?_
          refine x_eqi (y := nI (lgB v k)) (by unfold lgB; rw [if_neg (by omega)]) ?_
          refine x_iastN C (mO.2.2 22 _ rfl).2.1 (mO.2.2 22 _ rfl).2.2 (by omega) (by omega) dX11_tellsLong_34 (fun I1 eI1 => ?_)
          refine x_iinc (v := nI (k + 1)) (lv' := [(3, .int (nI (k + 1))), (0, .ref (A 63)), (1, .int (nI at_)), (2, .int (nI v))]) C dX11_tellsLong_35 0 rfl (nI_inc 1) (Nat.lt_of_lt_of_eq (by decide) hN.symm) rfl ?_
          refine x_goto (tgt := 2) C dX11_tellsLong_38 (by decide) ?_
          refine x_sub (lv' := _) [0, 1, 2, 3] rfl ?_
          exact ih2 (k + 1) I1 (by omega) (by omega) (by rw [eI1, hJ]; simp only [up_eq, up_up]; exact congrArg (va_up I 22) (by rw [upd_up]; exact seg_s (fun j => nI (lgB v j)) _ at_ rfl))
        · refine x_iload_n C dX11_tellsLong_20 3 rfl rfl ?_
          refine x_bipush (v := nI 8) C dX11_tellsLong_21 (by decide +kernel) ?_
          refine x_iload_n C dX11_tellsLong_23 0 rfl rfl ?_
          refine x_imulN C dX11_tellsLong_24 ?_
          refine x_iushr C dX11_tellsLong_25 ?_
          refine x_sipush (v := nI 255) C dX11_tellsLong_26 (by decide +kernel) ?_
          refine x_iand C dX11_tellsLong_29 ?_
          refine x_goto (tgt := 34) C dX11_tellsLong_30 (by decide) ?_
          refine x_eqi (y := nI (lgB v k)) (by rw [sz_at (by omega) (by omega)]; unfold lgB; rw [if_pos (by omega)]) ?_
          refine x_iastN C (mO.2.2 22 _ rfl).2.1 (mO.2.2 22 _ rfl).2.2 (by omega) (by omega) dX11_tellsLong_34 (fun I2 eI2 => ?_)
          refine x_iinc (v := nI (k + 1)) (lv' := [(3, .int (nI (k + 1))), (0, .ref (A 63)), (1, .int (nI at_)), (2, .int (nI v))]) C dX11_tellsLong_35 0 rfl (nI_inc 1) (Nat.lt_of_lt_of_eq (by decide) hN.symm) rfl ?_
          refine x_goto (tgt := 2) C dX11_tellsLong_38 (by decide) ?_
          refine x_sub (lv' := _) [0, 1, 2, 3] rfl ?_
          exact ih2 (k + 1) I2 (by omega) (by omega) (by rw [eI2, hJ]; simp only [up_eq, up_up]; exact congrArg (va_up I 22) (by rw [upd_up]; exact seg_s (fun j => nI (lgB v j)) _ at_ rfl))
  refine x_sub (lv' := _) [0, 1, 2, 3] rfl ?_
  exact L2 _ 0 I (Nat.lt_succ_self _) (by omega) (seg_0 I 22 at_ (fun j => nI (lgB v j)))

