set_option maxHeartbeats 4000000 in
set_option maxRecDepth 100000 in
theorem ok_X0_makeBlock {l : Launch} {a0 : Nat} {D : va_G} {sa : Nat → Nat} {T : Nat → Option hKd} {I : Nat → Nat → Int32} {L : Nat → Nat → Int64} {R : Nat → Nat → Option Nat} {A : Nat → Nat} (xO : isX T R A a0) (hsa : ∀ k, k < 5 → sa k = A (90 + k)) (c : Int32) : hM l a0 D sa yX0_makeBlock cX0_makeBlock 3 none { frames := 2, cells := 0, slots := 0, locals := 49 } [.ref (A 132), .int c] (T, I, L, R, A) (fun r G' => r = none ∧ ∃ I', G' = (T, I', L, R, A) ∧ I' 133 = upd (I 133) 12 c ∧ (∀ i, i < 16 → I' 134 i = cBlk (I' 133) i) ∧ fx [133, 134] I I') := by
  refine hM.of (by decide +kernel) (Nat.le_of_ble_eq_true rfl) ?_
  intro z hl h0 hD hS hN C E
  subst hl; subst h0; subst hD; subst hS
  have C : hC z RX0 cX0_makeBlock := C
  have hZ := E.2.2.2.1
  show hX z 0 0 (T, I, L, R, A) [(0, .ref (A 132)), (1, .int c)] 0 []
  refine x_aload_n C dX0_makeBlock_0 0 rfl rfl ?_
  refine x_getrN C fl_X0_9 (xO.1 132 _ rfl).1 rfl (xO.2.1 132 0 _ rfl) dX0_makeBlock_1 ?_
  refine x_bipush (v := nI 12) C dX0_makeBlock_4 (by decide +kernel) ?_
  refine x_iload_n C dX0_makeBlock_6 1 rfl rfl ?_
  refine x_iastN C (xO.1 133 _ rfl).1 (xO.1 133 _ rfl).2 (by omega) (by omega) dX0_makeBlock_7 (fun I1 eI1 => ?_)
  refine x_aload_n C dX0_makeBlock_8 0 rfl rfl ?_
  refine x_getrN C fl_X0_9 (xO.1 132 _ rfl).1 rfl (xO.2.1 132 0 _ rfl) dX0_makeBlock_9 ?_
  refine x_iconst (v := nI 0) C dX0_makeBlock_12 (by decide +kernel) ?_
  refine x_aload_n C dX0_makeBlock_13 0 rfl rfl ?_
  refine x_getrN C fl_X0_15 (xO.1 132 _ rfl).1 rfl (xO.2.1 132 1 _ rfl) dX0_makeBlock_14 ?_
  refine x_iconst (v := nI 0) C dX0_makeBlock_17 (by decide +kernel) ?_
  refine x_bipush (v := nI 16) C dX0_makeBlock_18 (by decide +kernel) ?_
  refine x_copyi C (xO.1 133 _ rfl).1 (xO.1 134 _ rfl).1 (xO.1 134 _ rfl).2 (by omega) (by omega) (by omega) (by omega) ml_X0_88 (hrm (rm := { frames := 0, cells := 0, slots := 0, locals := 0 }) hZ ⟨Nat.le_of_ble_eq_true rfl, by decide +kernel⟩) dX0_makeBlock_20 (fun I2 eI2 => ?_)
  refine x_iconst (v := nI 0) C dX0_makeBlock_23 (by decide +kernel) ?_
  refine x_istore_n (lv' := [(2, .int (nI 0)), (0, .ref (A 132)), (1, .int c)]) C dX0_makeBlock_24 rfl (Nat.lt_of_lt_of_eq (by decide) hN.symm) rfl ?_
  have L25 : ∀ (fuel_ : Nat) (i : Nat) (J : Nat → Nat → Int32), 10 - i < fuel_ → (i ≤ 10) → (J = va_up I2 134 (cRs (I2 134) i)) → hX z 0 0 (T, J, L, R, A) [(2, .int (nI i)), (0, .ref (A 132)), (1, .int c)] 25 [] := by
    intro fuel_
    induction fuel_ with
    | zero => intro i J hmz; exact absurd hmz (Nat.not_lt_zero _)
    | succ fuel_ ih25 =>
      intro i J hmz hi hJ
      refine x_iload_n C dX0_makeBlock_25 0 rfl rfl ?_
      refine x_bipush (v := nI 10) C dX0_makeBlock_26 (by decide +kernel) ?_
      refine x_icmp_geN (tgt := 121) C (by omega) (by omega) dX0_makeBlock_28 (by decide) (fun c28 => ?_) (fun c28 => ?_)
      · refine x_iconst (v := nI 0) C dX0_makeBlock_121 (by decide +kernel) ?_
        refine x_istore_n (lv' := [(2, .int (nI 0)), (0, .ref (A 132)), (1, .int c)]) C dX0_makeBlock_122 rfl (Nat.lt_of_lt_of_eq (by decide) hN.symm) rfl ?_
        have L123 : ∀ (fuel_ : Nat) (j : Nat) (K : Nat → Nat → Int32), 16 - j < fuel_ → (j ≤ 16) → (K = va_up J 134 (fun x => if x < j then J 134 x + J 133 x else J 134 x)) → hX z 0 0 (T, K, L, R, A) [(2, .int (nI j)), (0, .ref (A 132)), (1, .int c)] 123 [] := by
          intro fuel_
          induction fuel_ with
          | zero => intro j K hmz; exact absurd hmz (Nat.not_lt_zero _)
          | succ fuel_ ih123 =>
            intro j K hmz hj hK
            refine x_iload_n C dX0_makeBlock_123 0 rfl rfl ?_
            refine x_bipush (v := nI 16) C dX0_makeBlock_124 (by decide +kernel) ?_
            refine x_icmp_geN (tgt := 150) C (by omega) (by omega) dX0_makeBlock_126 (by decide) (fun c126 => ?_) (fun c126 => ?_)
            · exact x_vret C E (Nat.le_of_ble_eq_true rfl) (Nat.le_of_ble_eq_true rfl) dX0_makeBlock_150 (⟨rfl, K, rfl, by rw [hK, up_ne _ _ (by decide), hJ, up_ne _ _ (by decide), eI2, up_ne _ _ (by decide), eI1, up_eq], fun t ht => by
                  rw [hK, up_eq, up_ne _ _ (by decide)]
                  rw [if_pos (by omega), hJ, up_eq, up_ne _ _ (by decide), show i = 10 by omega]
                  unfold cBlk
                  rw [cRs_congr (g := I2 133) (fun s hs => by rw [eI2, up_eq, up_ne _ _ (by decide), if_pos (by omega), Nat.zero_add, Nat.sub_zero]) 10 t ht],
                  by rw [hK, hJ, eI2, eI1]; exact (((fx.rf.up (by simp)).up (by simp)).up (by simp)).up (by simp)⟩)
            · refine x_aload_n C dX0_makeBlock_129 1 rfl rfl ?_
              refine x_getrN C fl_X0_15 (xO.1 132 _ rfl).1 rfl (xO.2.1 132 1 _ rfl) dX0_makeBlock_130 ?_
              refine x_iload_n C dX0_makeBlock_133 0 rfl rfl ?_
              refine x_dup2 C dX0_makeBlock_134 rfl rfl ?_
              refine x_ialdN C (xO.1 134 _ rfl).1 (by omega) (by omega) dX0_makeBlock_135 ?_
              refine x_aload_n C dX0_makeBlock_136 1 rfl rfl ?_
              refine x_getrN C fl_X0_9 (xO.1 132 _ rfl).1 rfl (xO.2.1 132 0 _ rfl) dX0_makeBlock_137 ?_
              refine x_iload_n C dX0_makeBlock_140 0 rfl rfl ?_
              refine x_ialdN C (xO.1 133 _ rfl).1 (by omega) (by omega) dX0_makeBlock_141 ?_
              refine x_iadd C dX0_makeBlock_142 ?_
              refine x_iastN C (xO.1 134 _ rfl).1 (xO.1 134 _ rfl).2 (by omega) (by omega) dX0_makeBlock_143 (fun I3 eI3 => ?_)
              refine x_iinc (v := nI (j + 1)) (lv' := [(2, .int (nI (j + 1))), (0, .ref (A 132)), (1, .int c)]) C dX0_makeBlock_144 0 rfl (nI_inc 1) (Nat.lt_of_lt_of_eq (by decide) hN.symm) rfl ?_
              refine x_goto (tgt := 123) C dX0_makeBlock_147 (by decide) ?_
              refine x_sub (lv' := _) [0, 1, 2] rfl ?_
              exact ih123 (j + 1) I3 (by omega) (by omega) (by rw [eI3, hK]; simp only [up_eq, up_up, up_ne _ _ (show (133 : Nat) ≠ 134 by decide)]; exact congrArg (va_up J 134) (by rw [upd_up]; exact fill_s (fun x => J 134 x + J 133 x) _ (by rw [if_neg (by omega)])))
        refine x_sub (lv' := _) [0, 1, 2] rfl ?_
        exact L123 _ 0 J (Nat.lt_succ_self _) (by omega) (fill_0 J 134 _)
      · refine x_aload_n C dX0_makeBlock_31 1 rfl rfl ?_
        refine x_iconst (v := nI 0) C dX0_makeBlock_32 (by decide +kernel) ?_
        refine x_iconst (v := nI 4) C dX0_makeBlock_33 (by decide +kernel) ?_
        refine x_bipush (v := nI 8) C dX0_makeBlock_34 (by decide +kernel) ?_
        refine x_bipush (v := nI 12) C dX0_makeBlock_36 (by decide +kernel) ?_
        refine x_callV C (ok_X0_quarter (I := J) xO hsa 0 4 8 12 (by decide) (by decide) (by decide) (by decide)) mv_X0_quarter ml_X0_94 (xO.1 132 _ rfl).1 rfl rfl rfl (Nat.le_of_ble_eq_true rfl) (hrm (rm := { frames := 0, cells := 0, slots := 0, locals := 0 }) hZ ⟨Nat.le_of_ble_eq_true rfl, Nat.le_of_ble_eq_true rfl⟩) (hcs hZ ⟨Nat.le_of_ble_eq_true rfl, Nat.le_of_ble_eq_true rfl⟩) dX0_makeBlock_38 (fun v G' hp => ?_)
        obtain ⟨rfl, rfl⟩ := hp
        show hX z 0 0 (T, (va_up J 134 (cQ (J 134) 0 4 8 12)), L, R, A) [(2, .int (nI i)), (0, .ref (A 132)), (1, .int c)] 41 []
        refine x_aload_n C dX0_makeBlock_41 1 rfl rfl ?_
        refine x_iconst (v := nI 1) C dX0_makeBlock_42 (by decide +kernel) ?_
        refine x_iconst (v := nI 5) C dX0_makeBlock_43 (by decide +kernel) ?_
        refine x_bipush (v := nI 9) C dX0_makeBlock_44 (by decide +kernel) ?_
        refine x_bipush (v := nI 13) C dX0_makeBlock_46 (by decide +kernel) ?_
        refine x_callV C (ok_X0_quarter (I := (va_up J 134 (cQ (J 134) 0 4 8 12))) xO hsa 1 5 9 13 (by decide) (by decide) (by decide) (by decide)) mv_X0_quarter ml_X0_94 (xO.1 132 _ rfl).1 rfl rfl rfl (Nat.le_of_ble_eq_true rfl) (hrm (rm := { frames := 0, cells := 0, slots := 0, locals := 0 }) hZ ⟨Nat.le_of_ble_eq_true rfl, Nat.le_of_ble_eq_true rfl⟩) (hcs hZ ⟨Nat.le_of_ble_eq_true rfl, Nat.le_of_ble_eq_true rfl⟩) dX0_makeBlock_48 (fun v G' hp => ?_)
        obtain ⟨rfl, rfl⟩ := hp
        rw [up_eq, up_up]
        show hX z 0 0 (T, (va_up J 134 (cQ (cQ (J 134) 0 4 8 12) 1 5 9 13)), L, R, A) [(2, .int (nI i)), (0, .ref (A 132)), (1, .int c)] 51 []
        refine x_aload_n C dX0_makeBlock_51 1 rfl rfl ?_
        refine x_iconst (v := nI 2) C dX0_makeBlock_52 (by decide +kernel) ?_
        refine x_bipush (v := nI 6) C dX0_makeBlock_53 (by decide +kernel) ?_
        refine x_bipush (v := nI 10) C dX0_makeBlock_55 (by decide +kernel) ?_
        refine x_bipush (v := nI 14) C dX0_makeBlock_57 (by decide +kernel) ?_
        refine x_callV C (ok_X0_quarter (I := (va_up J 134 (cQ (cQ (J 134) 0 4 8 12) 1 5 9 13))) xO hsa 2 6 10 14 (by decide) (by decide) (by decide) (by decide)) mv_X0_quarter ml_X0_94 (xO.1 132 _ rfl).1 rfl rfl rfl (Nat.le_of_ble_eq_true rfl) (hrm (rm := { frames := 0, cells := 0, slots := 0, locals := 0 }) hZ ⟨Nat.le_of_ble_eq_true rfl, Nat.le_of_ble_eq_true rfl⟩) (hcs hZ ⟨Nat.le_of_ble_eq_true rfl, Nat.le_of_ble_eq_true rfl⟩) dX0_makeBlock_59 (fun v G' hp => ?_)
        obtain ⟨rfl, rfl⟩ := hp
        rw [up_eq, up_up]
        show hX z 0 0 (T, (va_up J 134 (cQ (cQ (cQ (J 134) 0 4 8 12) 1 5 9 13) 2 6 10 14)), L, R, A) [(2, .int (nI i)), (0, .ref (A 132)), (1, .int c)] 62 []
        refine x_aload_n C dX0_makeBlock_62 1 rfl rfl ?_
        refine x_iconst (v := nI 3) C dX0_makeBlock_63 (by decide +kernel) ?_
        refine x_bipush (v := nI 7) C dX0_makeBlock_64 (by decide +kernel) ?_
        refine x_bipush (v := nI 11) C dX0_makeBlock_66 (by decide +kernel) ?_
        refine x_bipush (v := nI 15) C dX0_makeBlock_68 (by decide +kernel) ?_
        refine x_callV C (ok_X0_quarter (I := (va_up J 134 (cQ (cQ (cQ (J 134) 0 4 8 12) 1 5 9 13) 2 6 10 14))) xO hsa 3 7 11 15 (by decide) (by decide) (by decide) (by decide)) mv_X0_quarter ml_X0_94 (xO.1 132 _ rfl).1 rfl rfl rfl (Nat.le_of_ble_eq_true rfl) (hrm (rm := { frames := 0, cells := 0, slots := 0, locals := 0 }) hZ ⟨Nat.le_of_ble_eq_true rfl, Nat.le_of_ble_eq_true rfl⟩) (hcs hZ ⟨Nat.le_of_ble_eq_true rfl, Nat.le_of_ble_eq_true rfl⟩) dX0_makeBlock_70 (fun v G' hp => ?_)
        obtain ⟨rfl, rfl⟩ := hp
        rw [up_eq, up_up]
        show hX z 0 0 (T, (va_up J 134 (cQ (cQ (cQ (cQ (J 134) 0 4 8 12) 1 5 9 13) 2 6 10 14) 3 7 11 15)), L, R, A) [(2, .int (nI i)), (0, .ref (A 132)), (1, .int c)] 73 []
        refine x_aload_n C dX0_makeBlock_73 1 rfl rfl ?_
        refine x_iconst (v := nI 0) C dX0_makeBlock_74 (by decide +kernel) ?_
        refine x_iconst (v := nI 5) C dX0_makeBlock_75 (by decide +kernel) ?_
        refine x_bipush (v := nI 10) C dX0_makeBlock_76 (by decide +kernel) ?_
        refine x_bipush (v := nI 15) C dX0_makeBlock_78 (by decide +kernel) ?_
        refine x_callV C (ok_X0_quarter (I := (va_up J 134 (cQ (cQ (cQ (cQ (J 134) 0 4 8 12) 1 5 9 13) 2 6 10 14) 3 7 11 15))) xO hsa 0 5 10 15 (by decide) (by decide) (by decide) (by decide)) mv_X0_quarter ml_X0_94 (xO.1 132 _ rfl).1 rfl rfl rfl (Nat.le_of_ble_eq_true rfl) (hrm (rm := { frames := 0, cells := 0, slots := 0, locals := 0 }) hZ ⟨Nat.le_of_ble_eq_true rfl, Nat.le_of_ble_eq_true rfl⟩) (hcs hZ ⟨Nat.le_of_ble_eq_true rfl, Nat.le_of_ble_eq_true rfl⟩) dX0_makeBlock_80 (fun v G' hp => ?_)
        obtain ⟨rfl, rfl⟩ := hp
        rw [up_eq, up_up]
        show hX z 0 0 (T, (va_up J 134 (cQ (cQ (cQ (cQ (cQ (J 134) 0 4 8 12) 1 5 9 13) 2 6 10 14) 3 7 11 15) 0 5 10 15)), L, R, A) [(2, .int (nI i)), (0, .ref (A 132)), (1, .int c)] 83 []
        refine x_aload_n C dX0_makeBlock_83 1 rfl rfl ?_
        refine x_iconst (v := nI 1) C dX0_makeBlock_84 (by decide +kernel) ?_
        refine x_bipush (v := nI 6) C dX0_makeBlock_85 (by decide +kernel) ?_
        refine x_bipush (v := nI 11) C dX0_makeBlock_87 (by decide +kernel) ?_
        refine x_bipush (v := nI 12) C dX0_makeBlock_89 (by decide +kernel) ?_
        refine x_callV C (ok_X0_quarter (I := (va_up J 134 (cQ (cQ (cQ (cQ (cQ (J 134) 0 4 8 12) 1 5 9 13) 2 6 10 14) 3 7 11 15) 0 5 10 15))) xO hsa 1 6 11 12 (by decide) (by decide) (by decide) (by decide)) mv_X0_quarter ml_X0_94 (xO.1 132 _ rfl).1 rfl rfl rfl (Nat.le_of_ble_eq_true rfl) (hrm (rm := { frames := 0, cells := 0, slots := 0, locals := 0 }) hZ ⟨Nat.le_of_ble_eq_true rfl, Nat.le_of_ble_eq_true rfl⟩) (hcs hZ ⟨Nat.le_of_ble_eq_true rfl, Nat.le_of_ble_eq_true rfl⟩) dX0_makeBlock_91 (fun v G' hp => ?_)
        obtain ⟨rfl, rfl⟩ := hp
        rw [up_eq, up_up]
        show hX z 0 0 (T, (va_up J 134 (cQ (cQ (cQ (cQ (cQ (cQ (J 134) 0 4 8 12) 1 5 9 13) 2 6 10 14) 3 7 11 15) 0 5 10 15) 1 6 11 12)), L, R, A) [(2, .int (nI i)), (0, .ref (A 132)), (1, .int c)] 94 []
        refine x_aload_n C dX0_makeBlock_94 1 rfl rfl ?_
        refine x_iconst (v := nI 2) C dX0_makeBlock_95 (by decide +kernel) ?_
        refine x_bipush (v := nI 7) C dX0_makeBlock_96 (by decide +kernel) ?_
        refine x_bipush (v := nI 8) C dX0_makeBlock_98 (by decide +kernel) ?_
        refine x_bipush (v := nI 13) C dX0_makeBlock_100 (by decide +kernel) ?_
        refine x_callV C (ok_X0_quarter (I := (va_up J 134 (cQ (cQ (cQ (cQ (cQ (cQ (J 134) 0 4 8 12) 1 5 9 13) 2 6 10 14) 3 7 11 15) 0 5 10 15) 1 6 11 12))) xO hsa 2 7 8 13 (by decide) (by decide) (by decide) (by decide)) mv_X0_quarter ml_X0_94 (xO.1 132 _ rfl).1 rfl rfl rfl (Nat.le_of_ble_eq_true rfl) (hrm (rm := { frames := 0, cells := 0, slots := 0, locals := 0 }) hZ ⟨Nat.le_of_ble_eq_true rfl, Nat.le_of_ble_eq_true rfl⟩) (hcs hZ ⟨Nat.le_of_ble_eq_true rfl, Nat.le_of_ble_eq_true rfl⟩) dX0_makeBlock_102 (fun v G' hp => ?_)
        obtain ⟨rfl, rfl⟩ := hp
        rw [up_eq, up_up]
        show hX z 0 0 (T, (va_up J 134 (cQ (cQ (cQ (cQ (cQ (cQ (cQ (J 134) 0 4 8 12) 1 5 9 13) 2 6 10 14) 3 7 11 15) 0 5 10 15) 1 6 11 12) 2 7 8 13)), L, R, A) [(2, .int (nI i)), (0, .ref (A 132)), (1, .int c)] 105 []
        refine x_aload_n C dX0_makeBlock_105 1 rfl rfl ?_
        refine x_iconst (v := nI 3) C dX0_makeBlock_106 (by decide +kernel) ?_
        refine x_iconst (v := nI 4) C dX0_makeBlock_107 (by decide +kernel) ?_
        refine x_bipush (v := nI 9) C dX0_makeBlock_108 (by decide +kernel) ?_
        refine x_bipush (v := nI 14) C dX0_makeBlock_110 (by decide +kernel) ?_
        refine x_callV C (ok_X0_quarter (I := (va_up J 134 (cQ (cQ (cQ (cQ (cQ (cQ (cQ (J 134) 0 4 8 12) 1 5 9 13) 2 6 10 14) 3 7 11 15) 0 5 10 15) 1 6 11 12) 2 7 8 13))) xO hsa 3 4 9 14 (by decide) (by decide) (by decide) (by decide)) mv_X0_quarter ml_X0_94 (xO.1 132 _ rfl).1 rfl rfl rfl (Nat.le_of_ble_eq_true rfl) (hrm (rm := { frames := 0, cells := 0, slots := 0, locals := 0 }) hZ ⟨Nat.le_of_ble_eq_true rfl, Nat.le_of_ble_eq_true rfl⟩) (hcs hZ ⟨Nat.le_of_ble_eq_true rfl, Nat.le_of_ble_eq_true rfl⟩) dX0_makeBlock_112 (fun v G' hp => ?_)
        obtain ⟨rfl, rfl⟩ := hp
        rw [up_eq, up_up]
        show hX z 0 0 (T, (va_up J 134 (cQ (cQ (cQ (cQ (cQ (cQ (cQ (cQ (J 134) 0 4 8 12) 1 5 9 13) 2 6 10 14) 3 7 11 15) 0 5 10 15) 1 6 11 12) 2 7 8 13) 3 4 9 14)), L, R, A) [(2, .int (nI i)), (0, .ref (A 132)), (1, .int c)] 115 []
        refine x_iinc (v := nI (i + 1)) (lv' := [(2, .int (nI (i + 1))), (0, .ref (A 132)), (1, .int c)]) C dX0_makeBlock_115 0 rfl (nI_inc 1) (Nat.lt_of_lt_of_eq (by decide) hN.symm) rfl ?_
        refine x_goto (tgt := 25) C dX0_makeBlock_118 (by decide) ?_
        refine x_sub (lv' := _) [0, 1, 2] rfl ?_
        exact ih25 (i + 1) (va_up J 134 (cQ (cQ (cQ (cQ (cQ (cQ (cQ (cQ (J 134) 0 4 8 12) 1 5 9 13) 2 6 10 14) 3 7 11 15) 0 5 10 15) 1 6 11 12) 2 7 8 13) 3 4 9 14)) (by omega) (by omega) (by rw [hJ]; simp only [up_eq, up_up]; rfl)
  refine x_sub (lv' := _) [0, 1, 2] rfl ?_
  exact L25 _ 0 I2 (Nat.lt_succ_self _) (by omega) (up_self _ _).symm

set_option maxHeartbeats 4000000 in
set_option maxRecDepth 100000 in
theorem ok_X0_blockByte {l : Launch} {a0 : Nat} {D : va_G} {sa : Nat → Nat} {T : Nat → Option hKd} {I : Nat → Nat → Int32} {L : Nat → Nat → Int64} {R : Nat → Nat → Option Nat} {A : Nat → Nat} (xO : isX T R A a0) (hsa : ∀ k, k < 5 → sa k = A (90 + k)) (k : Nat) (hk : k < 64) : hM l a0 D sa yX0_blockByte cX0_blockByte 2 (some .int) { frames := 0, cells := 0, slots := 0, locals := 0 } [.ref (A 132), .int (nI k)] (T, I, L, R, A) (fun r G' => r = some (.int (cByt (I 134) k)) ∧ G' = (T, I, L, R, A)) := by
  refine hM.of (by decide +kernel) (Nat.le_of_ble_eq_true rfl) ?_
  intro z hl h0 hD hS hN C E
  subst hl; subst h0; subst hD; subst hS
  have C : hC z RX0 cX0_blockByte := C
  have hZ := E.2.2.2.1
  show hX z 0 0 (T, I, L, R, A) [(0, .ref (A 132)), (1, .int (nI k))] 0 []
  refine x_aload_n C dX0_blockByte_0 0 rfl rfl ?_
  refine x_getrN C fl_X0_15 (xO.1 132 _ rfl).1 rfl (xO.2.1 132 1 _ rfl) dX0_blockByte_1 ?_
  refine x_iload_n C dX0_blockByte_4 1 rfl rfl ?_
  refine x_iconst (v := nI 2) C dX0_blockByte_5 (by decide +kernel) ?_
  refine x_ishrN C (by omega) (by omega) dX0_blockByte_6 ?_
  refine x_ialdN C (xO.1 134 _ rfl).1 (by omega) (by omega) dX0_blockByte_7 ?_
  refine x_bipush (v := nI 8) C dX0_blockByte_8 (by decide +kernel) ?_
  refine x_iload_n C dX0_blockByte_10 1 rfl rfl ?_
  refine x_iconst (v := nI 3) C dX0_blockByte_11 (by decide +kernel) ?_
  refine x_iandN (q := 2) C (by omega) (by omega) rfl dX0_blockByte_12 ?_
  refine x_imulN C dX0_blockByte_13 ?_
  refine x_iushr C dX0_blockByte_14 ?_
  refine x_sipush (v := nI 255) C dX0_blockByte_15 (by decide +kernel) ?_
  refine x_iand C dX0_blockByte_18 ?_
  exact x_iret C E (Nat.le_of_ble_eq_true rfl) (Nat.le_of_ble_eq_true rfl) dX0_blockByte_19 (⟨rfl, rfl⟩)

/-- bits of a number whose lowest byte is first, as the class takes them -/
def bitsF (f : Nat → Int32) (s w : Nat) : Int64 := lsr (Int32.toInt64 (f (s / 2 ^ 3) ||| isl (f (s / 2 ^ 3 + 1)) (nI 8) ||| isl (f (s / 2 ^ 3 + 2)) (nI 16)) ||| lsl (Int32.toInt64 (f (s / 2 ^ 3 + 3))) (nI 24)) (nI (s % 2 ^ 3)) &&& (lsl 1 (nI w) - 1)
set_option maxHeartbeats 4000000 in
set_option maxRecDepth 100000 in
theorem ok_X10_bitsOf {l : Launch} {a0 : Nat} {D : va_G} {sa : Nat → Nat} {T : Nat → Option hKd} {I : Nat → Nat → Int32} {L : Nat → Nat → Int64} {R : Nat → Nat → Option Nat} {A : Nat → Nat} (a n s b : Nat) (hTa : T a = some (.inl (.int, n))) (hn : n < 2 ^ 31) (hs : s / 8 + 3 < n) (hs2 : s < 2 ^ 20) : hM l a0 D sa yX10_bitsOf cX10_bitsOf 6 (some .long) { frames := 0, cells := 0, slots := 0, locals := 0 } [.ref (A a), .int (nI s), .int (nI b)] (T, I, L, R, A) (fun r G' => r = some (.long (bitsF (I a) s b)) ∧ G' = (T, I, L, R, A)) := by
  refine hM.of (by decide +kernel) (Nat.le_of_ble_eq_true rfl) ?_
  intro z hl h0 hD hS hN C E
  subst hl; subst h0; subst hD; subst hS
  have C : hC z RX10 cX10_bitsOf := C
  have hZ := E.2.2.2.1
  show hX z 0 0 (T, I, L, R, A) [(0, .ref (A a)), (1, .int (nI s)), (2, .int (nI b))] 0 []
  refine x_iload_n C dX10_bitsOf_0 1 rfl rfl ?_
  refine x_iconst (v := nI 3) C dX10_bitsOf_1 (by decide +kernel) ?_
  refine x_ishrN C (by omega) (by omega) dX10_bitsOf_2 ?_
  refine x_istore_n (lv' := [(3, .int (nI (s / 2 ^ 3))), (0, .ref (A a)), (1, .int (nI s)), (2, .int (nI b))]) C dX10_bitsOf_3 rfl (Nat.lt_of_lt_of_eq (by decide) hN.symm) rfl ?_
  refine x_aload_n C dX10_bitsOf_4 1 rfl rfl ?_
  refine x_iload_n C dX10_bitsOf_5 0 rfl rfl ?_
  refine x_ialdN C hTa (by omega) (by omega) dX10_bitsOf_6 ?_
  refine x_aload_n C dX10_bitsOf_7 1 rfl rfl ?_
  refine x_iload_n C dX10_bitsOf_8 0 rfl rfl ?_
  refine x_iconst (v := nI 1) C dX10_bitsOf_9 (by decide +kernel) ?_
  refine x_iaddN C dX10_bitsOf_10 ?_
  refine x_ialdN C hTa (by omega) (by omega) dX10_bitsOf_11 ?_
  refine x_bipush (v := nI 8) C dX10_bitsOf_12 (by decide +kernel) ?_
  refine x_ishl C dX10_bitsOf_14 ?_
  refine x_ior C dX10_bitsOf_15 ?_
  refine x_aload_n C dX10_bitsOf_16 1 rfl rfl ?_
  refine x_iload_n C dX10_bitsOf_17 0 rfl rfl ?_
  refine x_iconst (v := nI 2) C dX10_bitsOf_18 (by decide +kernel) ?_
  refine x_iaddN C dX10_bitsOf_19 ?_
  refine x_ialdN C hTa (by omega) (by omega) dX10_bitsOf_20 ?_
  refine x_bipush (v := nI 16) C dX10_bitsOf_21 (by decide +kernel) ?_
  refine x_ishl C dX10_bitsOf_23 ?_
  refine x_ior C dX10_bitsOf_24 ?_
  refine x_i2l C dX10_bitsOf_25 ?_
  refine x_aload_n C dX10_bitsOf_26 1 rfl rfl ?_
  refine x_iload_n C dX10_bitsOf_27 0 rfl rfl ?_
  refine x_iconst (v := nI 3) C dX10_bitsOf_28 (by decide +kernel) ?_
  refine x_iaddN C dX10_bitsOf_29 ?_
  refine x_ialdN C hTa (by omega) (by omega) dX10_bitsOf_30 ?_
  refine x_i2l C dX10_bitsOf_31 ?_
  refine x_bipush (v := nI 24) C dX10_bitsOf_32 (by decide +kernel) ?_
  refine x_lshl C dX10_bitsOf_34 ?_
  refine x_lor C dX10_bitsOf_35 ?_
  refine x_lstore (lv' := [(4, .long ((Int32.toInt64 (((I a (s / 2 ^ 3)) ||| (isl (I a (s / 2 ^ 3 + 1)) (nI 8))) ||| (isl (I a (s / 2 ^ 3 + 2)) (nI 16)))) ||| (lsl (Int32.toInt64 (I a (s / 2 ^ 3 + 3))) (nI 24)))), (3, .int (nI (s / 2 ^ 3))), (0, .ref (A a)), (1, .int (nI s)), (2, .int (nI b))]) C dX10_bitsOf_36 (Nat.lt_of_lt_of_eq (by decide) hN.symm) rfl ?_
  refine x_lload C dX10_bitsOf_38 0 rfl ?_
  refine x_iload_n C dX10_bitsOf_40 3 rfl rfl ?_
  refine x_bipush (v := nI 7) C dX10_bitsOf_41 (by decide +kernel) ?_
  refine x_iandN (q := 3) C (by omega) (by omega) rfl dX10_bitsOf_43 ?_
  refine x_lshr C dX10_bitsOf_44 ?_
  refine x_lconst (v := 1) C dX10_bitsOf_45 (by decide +kernel) ?_
  refine x_iload_n C dX10_bitsOf_46 4 rfl rfl ?_
  refine x_lshl C dX10_bitsOf_47 ?_
  refine x_lconst (v := 1) C dX10_bitsOf_48 (by decide +kernel) ?_
  refine x_lsub C dX10_bitsOf_49 ?_
  refine x_land C dX10_bitsOf_50 ?_
  exact x_lret C E (Nat.le_of_ble_eq_true rfl) (Nat.le_of_ble_eq_true rfl) dX10_bitsOf_51 (⟨rfl, rfl⟩)

theorem lsl_bv (x : Int64) {k : Nat} (hk : k < 64) : (lsl x (nI k)).toBitVec = x.toBitVec <<< k := by
  have e : ∀ k, k < 64 → (((nI k).toInt64 &&& 63).toBitVec.smod 64).toNat = k := by decide +kernel
  apply BitVec.eq_of_toNat_eq
  show (x <<< ((nI k).toInt64 &&& 63)).toBitVec.toNat = _
  rw [Int64.toBitVec_shiftLeft, BitVec.toNat_shiftLeft]
  simp only [BitVec.shiftLeft_eq', BitVec.toNat_shiftLeft, e k hk]
theorem lsr_bv (x : Int64) {k : Nat} (hk : k < 64) : (lsr x (nI k)).toBitVec = x.toBitVec.sshiftRight k := by
  have e : ∀ k, k < 64 → (((nI k).toInt64 &&& 63).toBitVec.smod 64).toNat = k := by decide +kernel
  show (x >>> ((nI k).toInt64 &&& 63)).toBitVec = _
  rw [Int64.toBitVec_shiftRight, BitVec.sshiftRight_eq', e k hk]
theorem bits32 (f : Nat → Int32) (k : Nat) : Int64.toInt32 (bitsF f (32 * k) 32) = cW f k := by
  unfold bitsF cW
  rw [show 32 * k / 2 ^ 3 = 4 * k by omega, show 32 * k % 2 ^ 3 = 0 by omega]
  generalize (f (4 * k) ||| isl (f (4 * k + 1)) (nI 8) ||| isl (f (4 * k + 2)) (nI 16)) = x
  generalize f (4 * k + 3) = y
  apply Int32.toBitVec_inj.mp
  rw [Int64.toBitVec_toInt32, Int64.toBitVec_and, lsr_bv _ (by decide), Int64.toBitVec_or, lsl_bv _ (by decide), Int32.toBitVec_or, isl_bv _ (by decide), Int32.toBitVec_toInt64, Int32.toBitVec_toInt64, show (lsl 1 (nI 32) - 1).toBitVec = 4294967295#64 by decide +kernel]
  rw [BitVec.signExtend_eq_setWidth_of_le _ (by decide)]
  apply BitVec.eq_of_getLsbD_eq
  intro i hi
  have hm : (4294967295#64).getLsbD i = true := by
    rw [show (4294967295#64) = BitVec.setWidth 64 (BitVec.allOnes 32) by decide +kernel, BitVec.getLsbD_setWidth, BitVec.getLsbD_allOnes]
    simp [hi]; omega
  have e1 : ∀ (v : BitVec 32) (t : Nat), t < 32 → (BitVec.signExtend 64 v).getLsbD t = v.getLsbD t := fun v t ht => by
    rw [BitVec.getLsbD_signExtend]; simp [ht, show t < 64 by omega]
  rw [BitVec.getLsbD_setWidth, BitVec.getLsbD_and, BitVec.getLsbD_sshiftRight, BitVec.getLsbD_or, BitVec.getLsbD_or, BitVec.getLsbD_shiftLeft, BitVec.getLsbD_shiftLeft, hm, Nat.zero_add, e1 x.toBitVec i hi]
  by_cases h : i < 24
  · simp [h, hi, show i < 64 by omega, show ¬ 64 ≤ i by omega]
  · rw [e1 y.toBitVec (i - 24) (by omega)]
    simp [h, hi, show i < 64 by omega, show ¬ 64 ≤ i by omega]
