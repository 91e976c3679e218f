theorem lZ_shrN {n : Nat} (h : n < 2 ^ 40) {k : Nat} (hk : k < 63) : lsr (lZ (n : Int)) (nI k) = lZ ((n / 2 ^ k : Nat) : Int) := by
  rw [lZ_shr (by omega) (by omega) hk, Int.natCast_ediv, Int.natCast_pow]; rfl
theorem pk_nx {i l : Nat} (h : 8 * i + 8 ≤ cvS l ∨ l = 10) (hi : i + 1 < 32) : 8 * (i + 1) ≤ cvS l := by
  rcases h with h | h
  · omega
  · rw [h, show cvS 10 = 255 from rfl]; omega
set_option maxHeartbeats 4000000 in
set_option maxRecDepth 100000 in
theorem ok_X1_pack {l : Launch} {a0 : Nat} {D : va_G} {sa : Nat → Nat} {T : Nat → Option hKd} {I : Nat → Nat → Int32} {L : Nat → Nat → Int64} {R : Nat → Nat → Option Nat} {A : Nat → Nat} (f u nu : Nat) (F : Nat → Int) (hTf : T f = some (.inl (.long, 10))) (hf0 : a0 ≤ A f) (hTu : T u = some (.inl (.int, nu))) (hu0 : a0 ≤ A u) (hnu : nu < 2 ^ 31) (hnu2 : 32 ≤ nu) (hF : ∀ j, j < 10 → L f j = lZ (F j)) (hB : ∀ i, i < 10 → -2 ^ 62 ≤ F i ∧ F i ≤ 2 ^ 62) : hM l a0 D sa yX1_pack cX1_pack 11 none { frames := 2, cells := 0, slots := 0, locals := 46 } [.ref (A f), .ref (A u)] (T, I, L, R, A) (fun r G' => r = none ∧ ∃ L', G' = (T, va_up I u (fun t => if t < 32 then nI (packF (cvCar F) t) else I u t), L', R, A) ∧ ∀ q, q ≠ f → L' q = L q) := by
  refine hM.of (by decide +kernel) (Nat.le_of_ble_eq_true rfl) ?_
  intro z hl h0 hD hS hN C E
  subst hl; subst h0; subst hD; subst hS
  have C : hC z RX1 cX1_pack := C
  have hZ := E.2.2.2.1
  show hX z 0 0 (T, I, L, R, A) [(0, .ref (A f)), (1, .ref (A u))] 0 []
  refine x_aload_n C dX1_pack_0 0 rfl rfl ?_
  refine x_callS C (ok_X1_carry f F hTf hf0 hF hB) ms_X1_carry ml_X1_90 rfl rfl (Nat.le_of_ble_eq_true rfl) (hrm (rm := { frames := 0, cells := 0, slots := 0, locals := 0 }) hZ ⟨Nat.le_of_ble_eq_true rfl, Nat.le_of_ble_eq_true rfl⟩) (hcs hZ ⟨Nat.le_of_ble_eq_true rfl, Nat.le_of_ble_eq_true rfl⟩) dX1_pack_1 (fun v G' hp => ?_)
  obtain ⟨rfl, M, rfl, iM, gM⟩ := hp
  have bM : cvB (cvCar F) := cvCar_b hB
  show hX z 0 0 (T, I, M, R, A) [(0, .ref (A f)), (1, .ref (A u))] 4 []
  refine x_ldc2 C dX1_pack_4 kc_X1_96 ?_
  refine x_eql (y := lZ 19) (lZ_lit 19) ?_
  refine x_lstore_n (lv' := [(2, .long (lZ 19)), (0, .ref (A f)), (1, .ref (A u))]) C dX1_pack_7 rfl (Nat.lt_of_lt_of_eq (by decide) hN.symm) rfl ?_
  refine x_iconst (v := nI 0) C dX1_pack_8 (by decide +kernel) ?_
  refine x_istore (lv' := [(4, .int (nI 0)), (2, .long (lZ 19)), (0, .ref (A f)), (1, .ref (A u))]) C dX1_pack_9 (Nat.lt_of_lt_of_eq (by decide) hN.symm) rfl ?_
  have L11 : ∀ (fuel_ : Nat) (i0 : Nat) (ov : Int), 10 - i0 < fuel_ → (i0 ≤ 10) → (ov = cvQ (cvCar F) i0) → hX z 0 0 (T, I, M, R, A) [(4, .int (nI i0)), (2, .long (lZ ov)), (0, .ref (A f)), (1, .ref (A u))] 11 [] := by
    intro fuel_
    induction fuel_ with
    | zero => intro i0 ov hmz; exact absurd hmz (Nat.not_lt_zero _)
    | succ fuel_ ih11 =>
      intro i0 ov hmz hi0 hov
      have hq := cvQ_b bM i0 hi0
      refine x_iload C dX1_pack_11 0 rfl ?_
      refine x_bipush (v := nI 10) C dX1_pack_13 (by decide +kernel) ?_
      refine x_icmp_geN (tgt := 37) C (by omega) (by omega) dX1_pack_15 (by decide) (fun c15 => ?_) (fun c15 => ?_)
      · refine x_lload_n C dX1_pack_37 1 rfl rfl ?_
        refine x_ldc2 C dX1_pack_38 kc_X1_96 ?_
        refine x_eql (y := lZ 19) (lZ_lit 19) ?_
        refine x_lmulZ C dX1_pack_41 ?_
        refine x_lstore_n (lv' := [(2, .long (lZ (ov * 19))), (4, .int (nI i0)), (0, .ref (A f)), (1, .ref (A u))]) C dX1_pack_42 rfl (Nat.lt_of_lt_of_eq (by decide) hN.symm) rfl ?_
        refine x_lconst (v := lZ 0) C dX1_pack_43 (by decide +kernel) ?_
        refine x_lstore (lv' := [(4, .long (lZ 0)), (2, .long (lZ (ov * 19))), (0, .ref (A f)), (1, .ref (A u))]) C dX1_pack_44 (Nat.lt_of_lt_of_eq (by decide) hN.symm) rfl ?_
        refine x_iconst (v := nI 0) C dX1_pack_46 (by decide +kernel) ?_
        refine x_istore (lv' := [(6, .int (nI 0)), (4, .long (lZ 0)), (2, .long (lZ (ov * 19))), (0, .ref (A f)), (1, .ref (A u))]) C dX1_pack_47 (Nat.lt_of_lt_of_eq (by decide) hN.symm) rfl ?_
        refine x_iconst (v := nI 0) C dX1_pack_49 (by decide +kernel) ?_
        refine x_istore (lv' := [(7, .int (nI 0)), (6, .int (nI 0)), (4, .long (lZ 0)), (2, .long (lZ (ov * 19))), (0, .ref (A f)), (1, .ref (A u))]) C dX1_pack_50 (Nat.lt_of_lt_of_eq (by decide) hN.symm) rfl ?_
        refine x_iconst (v := nI 0) C dX1_pack_52 (by decide +kernel) ?_
        refine x_istore (lv' := [(8, .int (nI 0)), (7, .int (nI 0)), (6, .int (nI 0)), (4, .long (lZ 0)), (2, .long (lZ (ov * 19))), (0, .ref (A f)), (1, .ref (A u))]) C dX1_pack_53 (Nat.lt_of_lt_of_eq (by decide) hN.symm) rfl ?_
        have L55 : ∀ (fuel_ : Nat) (i : Nat) (l : Nat) (x : Int32) (hd : Int) (o2 : Int) (J : Nat → Nat → Int32), 32 - i < fuel_ → (i ≤ 32) → (l ≤ 10) → (o2 = cvO2 (cvCar F) l) → (hd = ((cvP (cvCar F) l / 2 ^ (8 * i) : Nat) : Int)) → (x = nI (cvS l) - nI (8 * i)) → (i < 32 → 8 * i ≤ cvS l) → (cvS l ≤ 8 * i + 33) → (J = va_up I u (fun t => if t < i then nI (packF (cvCar F) t) else I u t)) → hX z 0 0 (T, J, M, R, A) [(8, .int (nI i)), (7, .int (nI l)), (6, .int x), (4, .long (lZ hd)), (2, .long (lZ o2)), (0, .ref (A f)), (1, .ref (A u))] 55 [] := by
          intro fuel_
          induction fuel_ with
          | zero => intro i l x hd o2 J hmz; exact absurd hmz (Nat.not_lt_zero _)
          | succ fuel_ ih55 =>
            intro i l x hd o2 J hmz hi hl ho2 hhd hx hle hbd hJ
            refine x_iload C dX1_pack_55 0 rfl ?_
            refine x_bipush (v := nI 32) C dX1_pack_57 (by decide +kernel) ?_
            refine x_icmp_geN (tgt := 154) C (by omega) (by omega) dX1_pack_59 (by decide) (fun c59 => ?_) (fun c59 => ?_)
            · exact x_vret C E (Nat.le_of_ble_eq_true rfl) (Nat.le_of_ble_eq_true rfl) dX1_pack_154 (⟨rfl, M, by rw [hJ, show i = 32 by omega], gM⟩)
            · have hxn : x = nI (cvS l - 8 * i) := by rw [hx, pk_sub (hle c59)]
              refine x_iload C dX1_pack_62 2 rfl ?_
              refine x_eqi (y := nI (cvS l - 8 * i)) hxn ?_
              refine x_bipush (v := nI 8) C dX1_pack_64 (by decide +kernel) ?_
              refine x_icmp_geN (tgt := 127) C (by omega) (by omega) dX1_pack_66 (by decide) (fun c66 => ?_) (fun c66 => ?_)
              · have bdA : cvP (cvCar F) l / 2 ^ (8 * i) < 2 ^ 40 := Nat.lt_of_lt_of_le (cvP_hl _ (hle c59)) (Nat.pow_le_pow_right (by decide) (by omega))
                have hfA : 8 * i + 8 ≤ cvS l ∨ l = 10 := Or.inl (by have := hle c59; omega)
                refine x_aload_n C dX1_pack_127 6 rfl rfl ?_
                refine x_iload C dX1_pack_128 0 rfl ?_
                refine x_lload C dX1_pack_130 3 rfl ?_
                refine x_l2i C dX1_pack_132 ?_
                refine x_sipush (v := nI 255) C dX1_pack_133 (by decide +kernel) ?_
                refine x_iand C dX1_pack_136 ?_
                refine x_eqi (y := nI (packF (cvCar F) i)) (by rw [hhd, lZ_l2i, nI_255, packF_at _ (by omega) hfA]) ?_
                refine x_iastN C hTu hu0 (by omega) (by omega) dX1_pack_137 (fun I1 eI1 => ?_)
                refine x_lload C dX1_pack_138 3 rfl ?_
                refine x_bipush (v := nI 8) C dX1_pack_140 (by decide +kernel) ?_
                refine x_lshr C dX1_pack_142 ?_
                refine x_eql (y := lZ ((cvP (cvCar F) l / 2 ^ (8 * (i + 1)) : Nat) : Int)) (by rw [hhd, lZ_shrN bdA (by decide), show 8 * (i + 1) = 8 * i + 8 by omega, Nat.pow_add, ← Nat.div_div_eq_div_mul]) ?_
                refine x_lstore (lv' := [(4, .long (lZ ((cvP (cvCar F) l / 2 ^ (8 * (i + 1)) : Nat) : Int))), (8, .int (nI i)), (7, .int (nI l)), (6, .int x), (2, .long (lZ o2)), (0, .ref (A f)), (1, .ref (A u))]) C dX1_pack_143 (Nat.lt_of_lt_of_eq (by decide) hN.symm) rfl ?_
                refine x_iinc (v := x + (-8)) (lv' := [(6, .int (x + (-8))), (4, .long (lZ ((cvP (cvCar F) l / 2 ^ (8 * (i + 1)) : Nat) : Int))), (8, .int (nI i)), (7, .int (nI l)), (2, .long (lZ o2)), (0, .ref (A f)), (1, .ref (A u))]) C dX1_pack_145 3 rfl (by rfl) (Nat.lt_of_lt_of_eq (by decide) hN.symm) rfl ?_
                refine x_iinc (v := nI (i + 1)) (lv' := [(8, .int (nI (i + 1))), (6, .int (x + (-8))), (4, .long (lZ ((cvP (cvCar F) l / 2 ^ (8 * (i + 1)) : Nat) : Int))), (7, .int (nI l)), (2, .long (lZ o2)), (0, .ref (A f)), (1, .ref (A u))]) C dX1_pack_148 2 rfl (nI_inc 1) (Nat.lt_of_lt_of_eq (by decide) hN.symm) rfl ?_
                refine x_goto (tgt := 55) C dX1_pack_151 (by decide) ?_
                refine x_sub (lv' := _) [0, 3, 1, 2, 4, 5, 6] rfl ?_
                exact ih55 (i + 1) l (x + (-8)) ((cvP (cvCar F) l / 2 ^ (8 * (i + 1)) : Nat) : Int) o2 I1 (by omega) (by omega) (by omega) ho2 rfl (by rw [hx, x_dec8, show 8 * (i + 1) = 8 * i + 8 by omega]) (pk_nx hfA) (by omega) (by rw [eI1, hJ]; simp only [up_eq, up_up]; exact congrArg (va_up I u) (by rw [upd_up]; exact fill_s (fun t => nI (packF (cvCar F) t)) _ rfl))
              · refine x_iload C dX1_pack_69 1 rfl ?_
                refine x_bipush (v := nI 10) C dX1_pack_71 (by decide +kernel) ?_
                refine x_icmp_geN (tgt := 127) C (by omega) (by omega) dX1_pack_73 (by decide) (fun c73 => ?_) (fun c73 => ?_)
                · have bdA : cvP (cvCar F) l / 2 ^ (8 * i) < 2 ^ 40 := Nat.lt_of_lt_of_le (cvP_hl _ (hle c59)) (Nat.pow_le_pow_right (by decide) (by omega))
                  have hfA : 8 * i + 8 ≤ cvS l ∨ l = 10 := Or.inr (by omega)
                  refine x_aload_n C dX1_pack_127 6 rfl rfl ?_
                  refine x_iload C dX1_pack_128 0 rfl ?_
                  refine x_lload C dX1_pack_130 3 rfl ?_
                  refine x_l2i C dX1_pack_132 ?_
                  refine x_sipush (v := nI 255) C dX1_pack_133 (by decide +kernel) ?_
                  refine x_iand C dX1_pack_136 ?_
                  refine x_eqi (y := nI (packF (cvCar F) i)) (by rw [hhd, lZ_l2i, nI_255, packF_at _ (by omega) hfA]) ?_
                  refine x_iastN C hTu hu0 (by omega) (by omega) dX1_pack_137 (fun I2 eI2 => ?_)
                  refine x_lload C dX1_pack_138 3 rfl ?_
                  refine x_bipush (v := nI 8) C dX1_pack_140 (by decide +kernel) ?_
                  refine x_lshr C dX1_pack_142 ?_
                  refine x_eql (y := lZ ((cvP (cvCar F) l / 2 ^ (8 * (i + 1)) : Nat) : Int)) (by rw [hhd, lZ_shrN bdA (by decide), show 8 * (i + 1) = 8 * i + 8 by omega, Nat.pow_add, ← Nat.div_div_eq_div_mul]) ?_
                  refine x_lstore (lv' := [(4, .long (lZ ((cvP (cvCar F) l / 2 ^ (8 * (i + 1)) : Nat) : Int))), (8, .int (nI i)), (7, .int (nI l)), (6, .int x), (2, .long (lZ o2)), (0, .ref (A f)), (1, .ref (A u))]) C dX1_pack_143 (Nat.lt_of_lt_of_eq (by decide) hN.symm) rfl ?_
                  refine x_iinc (v := x + (-8)) (lv' := [(6, .int (x + (-8))), (4, .long (lZ ((cvP (cvCar F) l / 2 ^ (8 * (i + 1)) : Nat) : Int))), (8, .int (nI i)), (7, .int (nI l)), (2, .long (lZ o2)), (0, .ref (A f)), (1, .ref (A u))]) C dX1_pack_145 3 rfl (by rfl) (Nat.lt_of_lt_of_eq (by decide) hN.symm) rfl ?_
                  refine x_iinc (v := nI (i + 1)) (lv' := [(8, .int (nI (i + 1))), (6, .int (x + (-8))), (4, .long (lZ ((cvP (cvCar F) l / 2 ^ (8 * (i + 1)) : Nat) : Int))), (7, .int (nI l)), (2, .long (lZ o2)), (0, .ref (A f)), (1, .ref (A u))]) C dX1_pack_148 2 rfl (nI_inc 1) (Nat.lt_of_lt_of_eq (by decide) hN.symm) rfl ?_
                  refine x_goto (tgt := 55) C dX1_pack_151 (by decide) ?_
                  refine x_sub (lv' := _) [0, 3, 1, 2, 4, 5, 6] rfl ?_
                  exact ih55 (i + 1) l (x + (-8)) ((cvP (cvCar F) l / 2 ^ (8 * (i + 1)) : Nat) : Int) o2 I2 (by omega) (by omega) (by omega) ho2 rfl (by rw [hx, x_dec8, show 8 * (i + 1) = 8 * i + 8 by omega]) (pk_nx hfA) (by omega) (by rw [eI2, hJ]; simp only [up_eq, up_up]; exact congrArg (va_up I u) (by rw [upd_up]; exact fill_s (fun t => nI (packF (cvCar F) t)) _ rfl))
                · have hob := cvO2_b bM l hl
                  have hgb := bM.b27 (show l < 10 by omega)
                  have hfC : 8 * i + 8 ≤ cvS (l + 1) ∨ l + 1 = 10 := Or.inl (by have := hle c59; have := wd_or l; rw [cvS_s]; omega)
                  have bdC : cvP (cvCar F) (l + 1) / 2 ^ (8 * i) < 2 ^ 40 := Nat.lt_of_lt_of_le (cvP_hl _ (by have := hle c59; rw [cvS_s]; omega)) (Nat.pow_le_pow_right (by decide) (by have := wd_or l; rw [cvS_s]; omega))
                  refine x_aload_n C dX1_pack_76 5 rfl rfl ?_
                  refine x_iload C dX1_pack_77 1 rfl ?_
                  refine x_laldN C hTf (by omega) (by omega) dX1_pack_79 ?_
                  refine x_eql (y := lZ ((cvCar F) l)) (iM l (by omega)) ?_
                  refine x_lload_n C dX1_pack_80 4 rfl rfl ?_
                  refine x_laddZ C dX1_pack_81 ?_
                  refine x_lstore (lv' := [(9, .long (lZ (((cvCar F) l) + o2))), (8, .int (nI i)), (7, .int (nI l)), (6, .int x), (4, .long (lZ hd)), (2, .long (lZ o2)), (0, .ref (A f)), (1, .ref (A u))]) C dX1_pack_82 (Nat.lt_of_lt_of_eq (by decide) hN.symm) rfl ?_
                  refine x_lload C dX1_pack_84 0 rfl ?_
                  refine x_iload C dX1_pack_86 2 rfl ?_
                  refine x_callS C (ok_X1_width l (by omega)) ms_X1_width ml_X1_98 rfl rfl (Nat.le_of_ble_eq_true rfl) (hrm (rm := { frames := 0, cells := 0, slots := 0, locals := 0 }) hZ ⟨Nat.le_of_ble_eq_true rfl, Nat.le_of_ble_eq_true rfl⟩) (hcs hZ ⟨Nat.le_of_ble_eq_true rfl, Nat.le_of_ble_eq_true rfl⟩) dX1_pack_88 (fun v G' hp => ?_)
                  obtain ⟨rfl, rfl⟩ := hp
                  show hX z 0 0 (T, J, M, R, A) [(9, .long (lZ (((cvCar F) l) + o2))), (8, .int (nI i)), (7, .int (nI l)), (6, .int x), (4, .long (lZ hd)), (2, .long (lZ o2)), (0, .ref (A f)), (1, .ref (A u))] 91 [.int (nI (wd l)), .long (lZ (((cvCar F) l) + o2))]
                  refine x_lshr C dX1_pack_91 ?_
                  refine x_eql (y := lZ (((cvCar F) l + o2) / 2 ^ wd l)) (lZ_shr (by omega) (by omega) (wd_lt l)) ?_
                  refine x_lstore_n (lv' := [(2, .long (lZ (((cvCar F) l + o2) / 2 ^ wd l))), (9, .long (lZ (((cvCar F) l) + o2))), (8, .int (nI i)), (7, .int (nI l)), (6, .int x), (4, .long (lZ hd)), (0, .ref (A f)), (1, .ref (A u))]) C dX1_pack_92 rfl (Nat.lt_of_lt_of_eq (by decide) hN.symm) rfl ?_
                  refine x_lload C dX1_pack_93 5 rfl ?_
                  refine x_lload C dX1_pack_95 1 rfl ?_
                  refine x_iconst (v := nI 1) C dX1_pack_97 (by decide +kernel) ?_
                  refine x_iload C dX1_pack_98 3 rfl ?_
                  refine x_callS C (ok_X1_width l (by omega)) ms_X1_width ml_X1_98 rfl rfl (Nat.le_of_ble_eq_true rfl) (hrm (rm := { frames := 0, cells := 0, slots := 0, locals := 0 }) hZ ⟨Nat.le_of_ble_eq_true rfl, Nat.le_of_ble_eq_true rfl⟩) (hcs hZ ⟨Nat.le_of_ble_eq_true rfl, Nat.le_of_ble_eq_true rfl⟩) dX1_pack_100 (fun v G' hp => ?_)
                  obtain ⟨rfl, rfl⟩ := hp
                  show hX z 0 0 (T, J, M, R, A) [(2, .long (lZ (((cvCar F) l + o2) / 2 ^ wd l))), (9, .long (lZ (((cvCar F) l) + o2))), (8, .int (nI i)), (7, .int (nI l)), (6, .int x), (4, .long (lZ hd)), (0, .ref (A f)), (1, .ref (A u))] 103 [.int (nI (wd l)), .int (nI 1), .long (lZ (((cvCar F) l) + o2)), .long (lZ hd)]
                  refine x_ishl C dX1_pack_103 ?_
                  refine x_iconst (v := nI 1) C dX1_pack_104 (by decide +kernel) ?_
                  refine x_isub C dX1_pack_105 ?_
                  refine x_i2l C dX1_pack_106 ?_
                  refine x_eql (y := lZ (2 ^ wd l - 1)) (msk l) ?_
                  refine x_land C dX1_pack_107 ?_
                  refine x_eql (y := lZ (cvE (cvCar F) l : Int)) (by rw [lZ_and _ (wd_lt l), ho2, cvE_i]) ?_
                  refine x_iload C dX1_pack_108 4 rfl ?_
                  refine x_eqi (y := nI (cvS l - 8 * i)) hxn ?_
                  refine x_lshl C dX1_pack_110 ?_
                  refine x_eql (y := lZ ((cvE (cvCar F) l : Int) * 2 ^ (cvS l - 8 * i))) (lZ_shl _ (by omega)) ?_
                  refine x_lor C dX1_pack_111 ?_
                  refine x_eql (y := lZ ((cvP (cvCar F) (l + 1) / 2 ^ (8 * i) : Nat) : Int)) (by rw [hhd, lZ_or (cvP_hl _ (hle c59)), cvP_add _ (hle c59)]) ?_
                  refine x_lstore (lv' := [(4, .long (lZ ((cvP (cvCar F) (l + 1) / 2 ^ (8 * i) : Nat) : Int))), (2, .long (lZ (((cvCar F) l + o2) / 2 ^ wd l))), (9, .long (lZ (((cvCar F) l) + o2))), (8, .int (nI i)), (7, .int (nI l)), (6, .int x), (0, .ref (A f)), (1, .ref (A u))]) C dX1_pack_112 (Nat.lt_of_lt_of_eq (by decide) hN.symm) rfl ?_
                  refine x_iload C dX1_pack_114 5 rfl ?_
                  refine x_iload C dX1_pack_116 4 rfl ?_
                  refine x_callS C (ok_X1_width l (by omega)) ms_X1_width ml_X1_98 rfl rfl (Nat.le_of_ble_eq_true rfl) (hrm (rm := { frames := 0, cells := 0, slots := 0, locals := 0 }) hZ ⟨Nat.le_of_ble_eq_true rfl, Nat.le_of_ble_eq_true rfl⟩) (hcs hZ ⟨Nat.le_of_ble_eq_true rfl, Nat.le_of_ble_eq_true rfl⟩) dX1_pack_118 (fun v G' hp => ?_)
                  obtain ⟨rfl, rfl⟩ := hp
                  show hX z 0 0 (T, J, M, R, A) [(4, .long (lZ ((cvP (cvCar F) (l + 1) / 2 ^ (8 * i) : Nat) : Int))), (2, .long (lZ (((cvCar F) l + o2) / 2 ^ wd l))), (9, .long (lZ (((cvCar F) l) + o2))), (8, .int (nI i)), (7, .int (nI l)), (6, .int x), (0, .ref (A f)), (1, .ref (A u))] 121 [.int (nI (wd l)), .int x]
                  refine x_iadd C dX1_pack_121 ?_
                  refine x_istore (lv' := [(6, .int (x + (nI (wd l)))), (4, .long (lZ ((cvP (cvCar F) (l + 1) / 2 ^ (8 * i) : Nat) : Int))), (2, .long (lZ (((cvCar F) l + o2) / 2 ^ wd l))), (9, .long (lZ (((cvCar F) l) + o2))), (8, .int (nI i)), (7, .int (nI l)), (0, .ref (A f)), (1, .ref (A u))]) C dX1_pack_122 (Nat.lt_of_lt_of_eq (by decide) hN.symm) rfl ?_
                  refine x_iinc (v := nI (l + 1)) (lv' := [(7, .int (nI (l + 1))), (6, .int (x + (nI (wd l)))), (4, .long (lZ ((cvP (cvCar F) (l + 1) / 2 ^ (8 * i) : Nat) : Int))), (2, .long (lZ (((cvCar F) l + o2) / 2 ^ wd l))), (9, .long (lZ (((cvCar F) l) + o2))), (8, .int (nI i)), (0, .ref (A f)), (1, .ref (A u))]) C dX1_pack_124 5 rfl (nI_inc 1) (Nat.lt_of_lt_of_eq (by decide) hN.symm) rfl ?_
                  refine x_aload_n C dX1_pack_127 7 rfl rfl ?_
                  refine x_iload C dX1_pack_128 5 rfl ?_
                  refine x_lload C dX1_pack_130 2 rfl ?_
                  refine x_l2i C dX1_pack_132 ?_
                  refine x_sipush (v := nI 255) C dX1_pack_133 (by decide +kernel) ?_
                  refine x_iand C dX1_pack_136 ?_
                  refine x_eqi (y := nI (packF (cvCar F) i)) (by rw [lZ_l2i, nI_255, packF_at _ (by omega) hfC]) ?_
                  refine x_iastN C hTu hu0 (by omega) (by omega) dX1_pack_137 (fun I3 eI3 => ?_)
                  refine x_lload C dX1_pack_138 2 rfl ?_
                  refine x_bipush (v := nI 8) C dX1_pack_140 (by decide +kernel) ?_
                  refine x_lshr C dX1_pack_142 ?_
                  refine x_eql (y := lZ ((cvP (cvCar F) (l + 1) / 2 ^ (8 * (i + 1)) : Nat) : Int)) (by rw [lZ_shrN bdC (by decide), show 8 * (i + 1) = 8 * i + 8 by omega, Nat.pow_add, ← Nat.div_div_eq_div_mul]) ?_
                  refine x_lstore (lv' := [(4, .long (lZ ((cvP (cvCar F) (l + 1) / 2 ^ (8 * (i + 1)) : Nat) : Int))), (7, .int (nI (l + 1))), (6, .int (x + (nI (wd l)))), (2, .long (lZ (((cvCar F) l + o2) / 2 ^ wd l))), (9, .long (lZ (((cvCar F) l) + o2))), (8, .int (nI i)), (0, .ref (A f)), (1, .ref (A u))]) C dX1_pack_143 (Nat.lt_of_lt_of_eq (by decide) hN.symm) rfl ?_
                  refine x_iinc (v := x + (nI (wd l)) + (-8)) (lv' := [(6, .int (x + (nI (wd l)) + (-8))), (4, .long (lZ ((cvP (cvCar F) (l + 1) / 2 ^ (8 * (i + 1)) : Nat) : Int))), (7, .int (nI (l + 1))), (2, .long (lZ (((cvCar F) l + o2) / 2 ^ wd l))), (9, .long (lZ (((cvCar F) l) + o2))), (8, .int (nI i)), (0, .ref (A f)), (1, .ref (A u))]) C dX1_pack_145 2 rfl (by rfl) (Nat.lt_of_lt_of_eq (by decide) hN.symm) rfl ?_
                  refine x_iinc (v := nI (i + 1)) (lv' := [(8, .int (nI (i + 1))), (6, .int (x + (nI (wd l)) + (-8))), (4, .long (lZ ((cvP (cvCar F) (l + 1) / 2 ^ (8 * (i + 1)) : Nat) : Int))), (7, .int (nI (l + 1))), (2, .long (lZ (((cvCar F) l + o2) / 2 ^ wd l))), (9, .long (lZ (((cvCar F) l) + o2))), (0, .ref (A f)), (1, .ref (A u))]) C dX1_pack_148 5 rfl (nI_inc 1) (Nat.lt_of_lt_of_eq (by decide) hN.symm) rfl ?_
                  refine x_goto (tgt := 55) C dX1_pack_151 (by decide) ?_
                  refine x_sub (lv' := _) [0, 3, 1, 2, 4, 6, 7] rfl ?_
                  exact ih55 (i + 1) (l + 1) (x + (nI (wd l)) + (-8)) ((cvP (cvCar F) (l + 1) / 2 ^ (8 * (i + 1)) : Nat) : Int) (((cvCar F) l + o2) / 2 ^ wd l) I3 (by omega) (by omega) (by omega) (by rw [ho2]; rfl) rfl (by rw [hx, x_inc, x_dec8, cvS_s, show 8 * (i + 1) = 8 * i + 8 by omega]) (pk_nx hfC) (by rw [cvS_s]; have := wd_or l; omega) (by rw [eI3, hJ]; simp only [up_eq, up_up]; exact congrArg (va_up I u) (by rw [upd_up]; exact fill_s (fun t => nI (packF (cvCar F) t)) _ rfl))
        refine x_sub (lv' := _) [0, 1, 2, 3, 4, 5, 6] rfl ?_
        exact L55 _ 0 0 (nI 0) 0 (ov * 19) I (Nat.lt_succ_self _) (by omega) (by omega) (by rw [hov, show i0 = 10 by omega]; rfl) (by simp [cvP]) (by decide +kernel) (fun _ => by omega) (by decide) (fill_0 I u _)
      · refine x_aload_n C dX1_pack_18 2 rfl rfl ?_
        refine x_iload C dX1_pack_19 0 rfl ?_
        refine x_laldN C hTf (by omega) (by omega) dX1_pack_21 ?_
        refine x_eql (y := lZ ((cvCar F) i0)) (iM i0 (by omega)) ?_
        refine x_lload_n C dX1_pack_22 1 rfl rfl ?_
        refine x_laddZ C dX1_pack_23 ?_
        refine x_iload C dX1_pack_24 0 rfl ?_
        refine x_callS C (ok_X1_width i0 (by omega)) ms_X1_width ml_X1_98 rfl rfl (Nat.le_of_ble_eq_true rfl) (hrm (rm := { frames := 0, cells := 0, slots := 0, locals := 0 }) hZ ⟨Nat.le_of_ble_eq_true rfl, Nat.le_of_ble_eq_true rfl⟩) (hcs hZ ⟨Nat.le_of_ble_eq_true rfl, Nat.le_of_ble_eq_true rfl⟩) dX1_pack_26 (fun v G' hp => ?_)
        obtain ⟨rfl, rfl⟩ := hp
        show hX z 0 0 (T, I, M, R, A) [(4, .int (nI i0)), (2, .long (lZ ov)), (0, .ref (A f)), (1, .ref (A u))] 29 [.int (nI (wd i0)), .long (lZ (((cvCar F) i0) + ov))]
        refine x_lshr C dX1_pack_29 ?_
        refine x_eql (y := lZ (((cvCar F) i0 + ov) / 2 ^ wd i0)) (lZ_shr (by have := bM.b27 (show i0 < 10 by omega); omega) (by have := bM.b27 (show i0 < 10 by omega); omega) (wd_lt i0)) ?_
        refine x_lstore_n (lv' := [(2, .long (lZ (((cvCar F) i0 + ov) / 2 ^ wd i0))), (4, .int (nI i0)), (0, .ref (A f)), (1, .ref (A u))]) C dX1_pack_30 rfl (Nat.lt_of_lt_of_eq (by decide) hN.symm) rfl ?_
        refine x_iinc (v := nI (i0 + 1)) (lv' := [(4, .int (nI (i0 + 1))), (2, .long (lZ (((cvCar F) i0 + ov) / 2 ^ wd i0))), (0, .ref (A f)), (1, .ref (A u))]) C dX1_pack_31 1 rfl (nI_inc 1) (Nat.lt_of_lt_of_eq (by decide) hN.symm) rfl ?_
        refine x_goto (tgt := 11) C dX1_pack_34 (by decide) ?_
        refine x_sub (lv' := _) [0, 1, 2, 3] rfl ?_
        exact ih11 (i0 + 1) (((cvCar F) i0 + ov) / 2 ^ wd i0) (by omega) (by omega) (by rw [hov]; rfl)
  refine x_sub (lv' := _) [0, 1, 2, 3] rfl ?_
  exact L11 _ 0 19 (Nat.lt_succ_self _) (by omega) rfl

