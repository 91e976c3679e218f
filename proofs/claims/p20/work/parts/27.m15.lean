/-- the stream that texts are turned by -/
def strm (key : Nat → Int32) (n : Int32) (i : Nat) : Int32 := cStr key (nI (1 + i / 64)) n (i % 64)
theorem strm_congr {k k' : Nat → Int32} {n : Int32} (h : ∀ i, i < 32 → k i = k' i) : strm k n = strm k' n := by
  funext i; unfold strm cStr; rw [cSt_congr h]
theorem cByt_congr {f g : Nat → Int32} (h : ∀ i, i < 16 → f i = g i) {k : Nat} (hk : k < 64) : cByt f k = cByt g k := by
  unfold cByt; rw [h _ (by omega)]
theorem cSt_12 {S key : Nat → Int32} {c n : Int32} (h : ∀ i, i < 16 → i ≠ 12 → S i = cSt key c n i) : ∀ i, i < 16 → upd S 12 c i = cSt key c n i := by
  intro i hi; unfold upd; by_cases e : i = 12
  · rw [if_pos e, e]; rfl
  · rw [if_neg e]; exact h i hi e
theorem cSt_any {key : Nat → Int32} (c c' : Int32) {n : Int32} {i : Nat} (h : i ≠ 12) : cSt key c n i = cSt key c' n i := by
  unfold cSt; rw [if_neg (c := i = 12) h, if_neg (c := i = 12) h]
theorem prep_cases {G0 F key : Nat → Int32} {n : Int32} (h : F = upd (upd (upd (fun x => if 4 ≤ x ∧ x < 4 + 8 then cW key (x - 4) else upd (upd (upd (upd G0 0 (nI 1634760805)) 1 (nI 857760878)) 2 (nI 2036477234)) 3 (nI 1797285236) x) 13 (nI 0)) 14 n) 15 (nI 0)) (c : Int32) : ∀ i, i < 16 → i ≠ 12 → F i = cSt key c n i := by
  intro i hi h12
  rw [h]
  rcases (show i = 0 ∨ i = 1 ∨ i = 2 ∨ i = 3 ∨ (4 ≤ i ∧ i < 12) ∨ i = 13 ∨ i = 14 ∨ i = 15 by omega) with rfl | rfl | rfl | rfl | h4 | rfl | rfl | rfl
  · simp [upd, cSt]
  · simp [upd, cSt]
  · simp [upd, cSt]
  · simp [upd, cSt]
  · simp [upd, cSt, h4, show i ≠ 13 by omega, show i ≠ 14 by omega, show i ≠ 15 by omega, show i ≠ 0 by omega, show i ≠ 1 by omega, show i ≠ 2 by omega, show i ≠ 3 by omega]
  · simp [upd, cSt]
  · simp [upd, cSt]
  · simp [upd, cSt]
set_option maxHeartbeats 4000000 in
set_option maxRecDepth 100000 in
theorem ok_X0_prepare {l : Launch} {a0 : Nat} {D : va_G} {sa : Nat → Nat} {T : Nat → Option hKd} {I : Nat → Nat → Int32} {L : Nat → Nat → Int64} {R : Nat → Nat → Option Nat} {A : Nat → Nat} (xO : isX T R A a0) (hsa : ∀ k, k < 5 → sa k = A (90 + k)) (b nb : Nat) (n : Int32) (hTb : T b = some (.inl (.int, nb))) (hnb : nb < 2 ^ 31) (hnb2 : 32 ≤ nb) (hb : b ≠ 133) : hM l a0 D sa yX0_prepare cX0_prepare 4 none { frames := 1, cells := 0, slots := 0, locals := 25 } [.ref (A 132), .ref (A b), .int n] (T, I, L, R, A) (fun r G' => r = none ∧ ∃ I', G' = (T, I', L, R, A) ∧ (∀ c i, i < 16 → i ≠ 12 → I' 133 i = cSt (I b) c n i) ∧ fx [133] I I') := by
  refine hM.of (by decide +kernel) (Nat.le_of_ble_eq_true rfl) ?_
  intro z hl h0 hD hS hN C E
  subst hl; subst h0; subst hD; subst hS
  have C : hC z RX0 cX0_prepare := C
  have hZ := E.2.2.2.1
  show hX z 0 0 (T, I, L, R, A) [(0, .ref (A 132)), (1, .ref (A b)), (2, .int n)] 0 []
  refine x_aload_n C dX0_prepare_0 0 rfl rfl ?_
  refine x_getrN C fl_X0_9 (xO.1 132 _ rfl).1 rfl (xO.2.1 132 0 _ rfl) dX0_prepare_1 ?_
  refine x_iconst (v := nI 0) C dX0_prepare_4 (by decide +kernel) ?_
  refine x_ldc C dX0_prepare_5 kc_X0_59 ?_
  refine x_iastN C (xO.1 133 _ rfl).1 (xO.1 133 _ rfl).2 (by omega) (by omega) dX0_prepare_7 (fun I1 eI1 => ?_)
  refine x_aload_n C dX0_prepare_8 0 rfl rfl ?_
  refine x_getrN C fl_X0_9 (xO.1 132 _ rfl).1 rfl (xO.2.1 132 0 _ rfl) dX0_prepare_9 ?_
  refine x_iconst (v := nI 1) C dX0_prepare_12 (by decide +kernel) ?_
  refine x_ldc C dX0_prepare_13 kc_X0_60 ?_
  refine x_iastN C (xO.1 133 _ rfl).1 (xO.1 133 _ rfl).2 (by omega) (by omega) dX0_prepare_15 (fun I2 eI2 => ?_)
  refine x_aload_n C dX0_prepare_16 0 rfl rfl ?_
  refine x_getrN C fl_X0_9 (xO.1 132 _ rfl).1 rfl (xO.2.1 132 0 _ rfl) dX0_prepare_17 ?_
  refine x_iconst (v := nI 2) C dX0_prepare_20 (by decide +kernel) ?_
  refine x_ldc C dX0_prepare_21 kc_X0_61 ?_
  refine x_iastN C (xO.1 133 _ rfl).1 (xO.1 133 _ rfl).2 (by omega) (by omega) dX0_prepare_23 (fun I3 eI3 => ?_)
  refine x_aload_n C dX0_prepare_24 0 rfl rfl ?_
  refine x_getrN C fl_X0_9 (xO.1 132 _ rfl).1 rfl (xO.2.1 132 0 _ rfl) dX0_prepare_25 ?_
  refine x_iconst (v := nI 3) C dX0_prepare_28 (by decide +kernel) ?_
  refine x_ldc C dX0_prepare_29 kc_X0_62 ?_
  refine x_iastN C (xO.1 133 _ rfl).1 (xO.1 133 _ rfl).2 (by omega) (by omega) dX0_prepare_31 (fun I4 eI4 => ?_)
  refine x_iconst (v := nI 0) C dX0_prepare_32 (by decide +kernel) ?_
  refine x_istore_n (lv' := [(3, .int (nI 0)), (0, .ref (A 132)), (1, .ref (A b)), (2, .int n)]) C dX0_prepare_33 rfl (Nat.lt_of_lt_of_eq (by decide) hN.symm) rfl ?_
  have L34 : ∀ (fuel_ : Nat) (i : Nat) (J : Nat → Nat → Int32), 8 - i < fuel_ → (i ≤ 8) → (J = va_up I4 133 (fun x => if 4 ≤ x ∧ x < 4 + i then cW (I b) (x - 4) else I4 133 x)) → hX z 0 0 (T, J, L, R, A) [(3, .int (nI i)), (0, .ref (A 132)), (1, .ref (A b)), (2, .int n)] 34 [] := by
    intro fuel_
    induction fuel_ with
    | zero => intro i J hmz; exact absurd hmz (Nat.not_lt_zero _)
    | succ fuel_ ih34 =>
      intro i J hmz hi hJ
      refine x_iload_n C dX0_prepare_34 0 rfl rfl ?_
      refine x_bipush (v := nI 8) C dX0_prepare_35 (by decide +kernel) ?_
      refine x_icmp_geN (tgt := 65) C (by omega) (by omega) dX0_prepare_37 (by decide) (fun c37 => ?_) (fun c37 => ?_)
      · refine x_aload_n C dX0_prepare_65 1 rfl rfl ?_
        refine x_getrN C fl_X0_9 (xO.1 132 _ rfl).1 rfl (xO.2.1 132 0 _ rfl) dX0_prepare_66 ?_
        refine x_bipush (v := nI 13) C dX0_prepare_69 (by decide +kernel) ?_
        refine x_iconst (v := nI 0) C dX0_prepare_71 (by decide +kernel) ?_
        refine x_iastN C (xO.1 133 _ rfl).1 (xO.1 133 _ rfl).2 (by omega) (by omega) dX0_prepare_72 (fun I5 eI5 => ?_)
        refine x_aload_n C dX0_prepare_73 1 rfl rfl ?_
        refine x_getrN C fl_X0_9 (xO.1 132 _ rfl).1 rfl (xO.2.1 132 0 _ rfl) dX0_prepare_74 ?_
        refine x_bipush (v := nI 14) C dX0_prepare_77 (by decide +kernel) ?_
        refine x_iload_n C dX0_prepare_79 3 rfl rfl ?_
        refine x_iastN C (xO.1 133 _ rfl).1 (xO.1 133 _ rfl).2 (by omega) (by omega) dX0_prepare_80 (fun I6 eI6 => ?_)
        refine x_aload_n C dX0_prepare_81 1 rfl rfl ?_
        refine x_getrN C fl_X0_9 (xO.1 132 _ rfl).1 rfl (xO.2.1 132 0 _ rfl) dX0_prepare_82 ?_
        refine x_bipush (v := nI 15) C dX0_prepare_85 (by decide +kernel) ?_
        refine x_iconst (v := nI 0) C dX0_prepare_87 (by decide +kernel) ?_
        refine x_iastN C (xO.1 133 _ rfl).1 (xO.1 133 _ rfl).2 (by omega) (by omega) dX0_prepare_88 (fun I7 eI7 => ?_)
        exact x_vret C E (Nat.le_of_ble_eq_true rfl) (Nat.le_of_ble_eq_true rfl) dX0_prepare_89 (⟨rfl, _, rfl, fun c => prep_cases (G0 := I 133) (by rw [eI7, eI6, eI5, hJ, show i = 8 by omega, eI4, eI3, eI2, eI1]; simp only [up_eq]) c, by rw [eI7, eI6, eI5, hJ, eI4, eI3, eI2, eI1]; exact (((((((fx.rf.up (by simp)).up (by simp)).up (by simp)).up (by simp)).up (by simp)).up (by simp)).up (by simp)).up (by simp)⟩)
      · refine x_aload_n C dX0_prepare_40 1 rfl rfl ?_
        refine x_getrN C fl_X0_9 (xO.1 132 _ rfl).1 rfl (xO.2.1 132 0 _ rfl) dX0_prepare_41 ?_
        refine x_iconst (v := nI 4) C dX0_prepare_44 (by decide +kernel) ?_
        refine x_iload_n C dX0_prepare_45 0 rfl rfl ?_
        refine x_iaddN C dX0_prepare_46 ?_
        refine x_aload_n C dX0_prepare_47 2 rfl rfl ?_
        refine x_bipush (v := nI 32) C dX0_prepare_48 (by decide +kernel) ?_
        refine x_iload_n C dX0_prepare_50 0 rfl rfl ?_
        refine x_imulN C dX0_prepare_51 ?_
        refine x_bipush (v := nI 32) C dX0_prepare_52 (by decide +kernel) ?_
        refine x_callSN C (ok_X10_bitsOf b nb (32 * i) 32 hTb hnb (by omega) (by omega)) ms_X10_bitsOf ml_X0_63 rfl rfl (Nat.le_of_ble_eq_true rfl) (hrm (rm := { frames := 0, cells := 0, slots := 0, locals := 0 }) hZ ⟨Nat.le_of_ble_eq_true rfl, Nat.le_of_ble_eq_true rfl⟩) (hcs hZ ⟨Nat.le_of_ble_eq_true rfl, Nat.le_of_ble_eq_true rfl⟩) dX0_prepare_54 (fun v G' hp => ?_)
        obtain ⟨rfl, rfl⟩ := hp
        show hX z 0 0 (T, J, L, R, A) [(3, .int (nI i)), (0, .ref (A 132)), (1, .ref (A b)), (2, .int n)] 57 [.long (bitsF (J b) (32 * i) 32), .int (nI (4 + i)), .ref (A 133)]
        refine x_l2i C dX0_prepare_57 ?_
        refine x_iastN C (xO.1 133 _ rfl).1 (xO.1 133 _ rfl).2 (by omega) (by omega) dX0_prepare_58 (fun I8 eI8 => ?_)
        refine x_iinc (v := nI (i + 1)) (lv' := [(3, .int (nI (i + 1))), (0, .ref (A 132)), (1, .ref (A b)), (2, .int n)]) C dX0_prepare_59 0 rfl (nI_inc 1) (Nat.lt_of_lt_of_eq (by decide) hN.symm) rfl ?_
        refine x_goto (tgt := 34) C dX0_prepare_62 (by decide) ?_
        refine x_sub (lv' := _) [0, 1, 2, 3] rfl ?_
        exact ih34 (i + 1) I8 (by omega) (by omega) (by rw [eI8, bits32, hJ]; simp only [up_eq, up_up, up_ne _ _ hb]; exact congrArg (va_up I4 133) (by rw [upd_up]; exact seg_s (cW (I b)) _ 4 (by rw [eI4, eI3, eI2, eI1]; simp only [up_ne _ _ hb])))
  refine x_sub (lv' := _) [0, 1, 2, 3] rfl ?_
  exact L34 _ 0 I4 (Nat.lt_succ_self _) (by omega) (seg_0 I4 133 4 _)

set_option maxHeartbeats 4000000 in
set_option maxRecDepth 100000 in
theorem ok_X0_turn {l : Launch} {a0 : Nat} {D : va_G} {sa : Nat → Nat} {T : Nat → Option hKd} {I : Nat → Nat → Int32} {L : Nat → Nat → Int64} {R : Nat → Nat → Option Nat} {A : Nat → Nat} (xO : isX T R A a0) (hsa : ∀ k, k < 5 → sa k = A (90 + k)) (x nx f e : Nat) (key : Nat → Int32) (n : Int32) (hTx : T x = some (.inl (.int, nx))) (hnx : nx < 2 ^ 20) (hx0 : a0 ≤ A x) (hfe : f ≤ e) (he : e ≤ nx) (hx : x ≠ 133 ∧ x ≠ 134) (hS : ∀ c i, i < 16 → i ≠ 12 → I 133 i = cSt key c n i) : hM l a0 D sa yX0_turn cX0_turn 5 none { frames := 3, cells := 0, slots := 0, locals := 71 } [.ref (A 132), .ref (A x), .int (nI f), .int (nI e)] (T, I, L, R, A) (fun r G' => r = none ∧ ∃ I', G' = (T, I', L, R, A) ∧ I' x = (fun t => if f ≤ t ∧ t < f + (e - f) then (fun j => I x (f + j) ^^^ strm key n j) (t - f) else I x t) ∧ (∀ c i, i < 16 → i ≠ 12 → I' 133 i = cSt key c n i) ∧ fx [133, 134, x] I I') := by
  refine hM.of (by decide +kernel) (Nat.le_of_ble_eq_true rfl) ?_
  intro z hl h0 hD hS hN C E
  subst hl; subst h0; subst hD; subst hS
  have C : hC z RX0 cX0_turn := C
  have hZ := E.2.2.2.1
  show hX z 0 0 (T, I, L, R, A) [(0, .ref (A 132)), (1, .ref (A x)), (2, .int (nI f)), (3, .int (nI e))] 0 []
  refine x_iconst (v := nI 0) C dX0_turn_0 (by decide +kernel) ?_
  refine x_istore (lv' := [(4, .int (nI 0)), (0, .ref (A 132)), (1, .ref (A x)), (2, .int (nI f)), (3, .int (nI e))]) C dX0_turn_1 (Nat.lt_of_lt_of_eq (by decide) hN.symm) rfl ?_
  have L3 : ∀ (fuel_ : Nat) (i : Nat) (J : Nat → Nat → Int32), e - f - i < fuel_ → (f + i ≤ e) → (J x = (fun t => if f ≤ t ∧ t < f + i then (fun j => I x (f + j) ^^^ strm key n j) (t - f) else I x t)) → (∀ c i, i < 16 → i ≠ 12 → J 133 i = cSt key c n i) → (i % 64 ≠ 0 → ∀ s, s < 16 → J 134 s = cBlk (cSt key (nI (1 + i / 64)) n) s) → (fx [133, 134, x] I J) → hX z 0 0 (T, J, L, R, A) [(4, .int (nI i)), (0, .ref (A 132)), (1, .ref (A x)), (2, .int (nI f)), (3, .int (nI e))] 3 [] := by
    intro fuel_
    induction fuel_ with
    | zero => intro i J hmz; exact absurd hmz (Nat.not_lt_zero _)
    | succ fuel_ ih3 =>
      intro i J hmz hi hJ hS2 hP fJ
      refine x_iload_n C dX0_turn_3 3 rfl rfl ?_
      refine x_iload C dX0_turn_4 0 rfl ?_
      refine x_iaddN C dX0_turn_6 ?_
      refine x_iload_n C dX0_turn_7 4 rfl rfl ?_
      refine x_icmp_geN (tgt := 54) C (by omega) (by omega) dX0_turn_8 (by decide) (fun c8 => ?_) (fun c8 => ?_)
      · exact x_vret C E (Nat.le_of_ble_eq_true rfl) (Nat.le_of_ble_eq_true rfl) dX0_turn_54 (⟨rfl, J, rfl, by rw [hJ, show e - f = i by omega], hS2, fJ⟩)
      · refine x_iload C dX0_turn_11 0 rfl ?_
        refine x_bipush (v := nI 64) C dX0_turn_13 (by decide +kernel) ?_
        refine x_iremN C (by omega) (by omega) (by omega) dX0_turn_15 ?_
        refine x_if_neN (tgt := 30) C (by omega) dX0_turn_16 (by decide) (fun c16 => ?_) (fun c16 => ?_)
        · have hB := hP c16
          refine x_aload_n C dX0_turn_30 2 rfl rfl ?_
          refine x_iload_n C dX0_turn_31 3 rfl rfl ?_
          refine x_iload C dX0_turn_32 0 rfl ?_
          refine x_iaddN C dX0_turn_34 ?_
          refine x_dup2 C dX0_turn_35 rfl rfl ?_
          refine x_ialdN C hTx (by omega) (by omega) dX0_turn_36 ?_
          refine x_aload_n C dX0_turn_37 1 rfl rfl ?_
          refine x_iload C dX0_turn_38 0 rfl ?_
          refine x_bipush (v := nI 64) C dX0_turn_40 (by decide +kernel) ?_
          refine x_iremN C (by omega) (by omega) (by omega) dX0_turn_42 ?_
          refine x_callV C (ok_X0_blockByte xO hsa (i % 64) (by omega)) mv_X0_blockByte ml_X0_71 (xO.1 132 _ rfl).1 rfl rfl rfl (Nat.le_of_ble_eq_true rfl) (hrm (rm := { frames := 0, cells := 0, slots := 0, locals := 0 }) hZ ⟨Nat.le_of_ble_eq_true rfl, Nat.le_of_ble_eq_true rfl⟩) (hcs hZ ⟨Nat.le_of_ble_eq_true rfl, Nat.le_of_ble_eq_true rfl⟩) dX0_turn_43 (fun v G' hp => ?_)
          obtain ⟨rfl, rfl⟩ := hp
          show hX z 0 0 (T, J, L, R, A) [(4, .int (nI i)), (0, .ref (A 132)), (1, .ref (A x)), (2, .int (nI f)), (3, .int (nI e))] 46 [.int (cByt (J 134) (i % 64)), .int (J x (f + i)), .int (nI (f + i)), .ref (A x)]
          refine x_ixor C dX0_turn_46 ?_
          refine x_iastN C hTx hx0 (by omega) (by omega) dX0_turn_47 (fun I1 eI1 => ?_)
          refine x_iinc (v := nI (i + 1)) (lv' := [(4, .int (nI (i + 1))), (0, .ref (A 132)), (1, .ref (A x)), (2, .int (nI f)), (3, .int (nI e))]) C dX0_turn_48 0 rfl (nI_inc 1) (Nat.lt_of_lt_of_eq (by decide) hN.symm) rfl ?_
          refine x_goto (tgt := 3) C dX0_turn_51 (by decide) ?_
          refine x_sub (lv' := _) [0, 1, 2, 3, 4] rfl ?_
          exact ih3 (i + 1) I1 (by omega) (by omega) (by rw [eI1, up_eq, hJ]; rw [upd_up]; exact seg_s (fun j => I x (f + j) ^^^ strm key n j) _ f (by dsimp only; rw [if_neg (by omega), cByt_congr hB (by omega)]; rfl)) (fun c i hi h => by rw [eI1, up_ne _ _ (Ne.symm hx.1)]; exact hS2 c i hi h) (fun h s hs => by rw [eI1, up_ne _ _ (Ne.symm hx.2), hB s hs, show (i + 1) / 64 = i / 64 by omega]) (by rw [eI1]; exact fJ.up (by simp))
        · refine x_aload_n C dX0_turn_19 1 rfl rfl ?_
          refine x_iconst (v := nI 1) C dX0_turn_20 (by decide +kernel) ?_
          refine x_iload C dX0_turn_21 0 rfl ?_
          refine x_bipush (v := nI 64) C dX0_turn_23 (by decide +kernel) ?_
          refine x_idivN C (by omega) (by omega) (by omega) dX0_turn_25 ?_
          refine x_iaddN C dX0_turn_26 ?_
          refine x_callV C (ok_X0_makeBlock xO hsa (nI (1 + i / 64))) mv_X0_makeBlock ml_X0_67 (xO.1 132 _ rfl).1 rfl rfl rfl (Nat.le_of_ble_eq_true rfl) (hrm (rm := { frames := 0, cells := 0, slots := 0, locals := 0 }) hZ ⟨Nat.le_of_ble_eq_true rfl, Nat.le_of_ble_eq_true rfl⟩) (hcs hZ ⟨Nat.le_of_ble_eq_true rfl, Nat.le_of_ble_eq_true rfl⟩) dX0_turn_27 (fun v G' hp => ?_)
          obtain ⟨rfl, J1, rfl, i1, b1, f1⟩ := hp
          have hB : ∀ s, s < 16 → J1 134 s = cBlk (cSt key (nI (1 + i / 64)) n) s := fun s hs => by rw [b1 s hs, i1]; exact cBlk_congr (cSt_12 (fun i hi h => hS2 _ i hi h)) s hs
          have hx1 : J1 x = J x := f1 x (by simp [hx])
          have hS3 : ∀ c i, i < 16 → i ≠ 12 → J1 133 i = cSt key c n i := fun c i hi h => by rw [i1, pk_un h]; exact hS2 c i hi h
          have fJ1 : fx [133, 134, x] I J1 := fJ.tr f1 (by first | (simp; done) | (intro q hq; simp at hq ⊢; omega))
          show hX z 0 0 (T, J1, L, R, A) [(4, .int (nI i)), (0, .ref (A 132)), (1, .ref (A x)), (2, .int (nI f)), (3, .int (nI e))] 30 []
          refine x_aload_n C dX0_turn_30 2 rfl rfl ?_
          refine x_iload_n C dX0_turn_31 3 rfl rfl ?_
          refine x_iload C dX0_turn_32 0 rfl ?_
          refine x_iaddN C dX0_turn_34 ?_
          refine x_dup2 C dX0_turn_35 rfl rfl ?_
          refine x_ialdN C hTx (by omega) (by omega) dX0_turn_36 ?_
          refine x_aload_n C dX0_turn_37 1 rfl rfl ?_
          refine x_iload C dX0_turn_38 0 rfl ?_
          refine x_bipush (v := nI 64) C dX0_turn_40 (by decide +kernel) ?_
          refine x_iremN C (by omega) (by omega) (by omega) dX0_turn_42 ?_
          refine x_callV C (ok_X0_blockByte xO hsa (i % 64) (by omega)) mv_X0_blockByte ml_X0_71 (xO.1 132 _ rfl).1 rfl rfl rfl (Nat.le_of_ble_eq_true rfl) (hrm (rm := { frames := 0, cells := 0, slots := 0, locals := 0 }) hZ ⟨Nat.le_of_ble_eq_true rfl, Nat.le_of_ble_eq_true rfl⟩) (hcs hZ ⟨Nat.le_of_ble_eq_true rfl, Nat.le_of_ble_eq_true rfl⟩) dX0_turn_43 (fun v G' hp => ?_)
          obtain ⟨rfl, rfl⟩ := hp
          show hX z 0 0 (T, J1, L, R, A) [(4, .int (nI i)), (0, .ref (A 132)), (1, .ref (A x)), (2, .int (nI f)), (3, .int (nI e))] 46 [.int (cByt (J1 134) (i % 64)), .int (J1 x (f + i)), .int (nI (f + i)), .ref (A x)]
          refine x_ixor C dX0_turn_46 ?_
          refine x_iastN C hTx hx0 (by omega) (by omega) dX0_turn_47 (fun I2 eI2 => ?_)
          refine x_iinc (v := nI (i + 1)) (lv' := [(4, .int (nI (i + 1))), (0, .ref (A 132)), (1, .ref (A x)), (2, .int (nI f)), (3, .int (nI e))]) C dX0_turn_48 0 rfl (nI_inc 1) (Nat.lt_of_lt_of_eq (by decide) hN.symm) rfl ?_
          refine x_goto (tgt := 3) C dX0_turn_51 (by decide) ?_
          refine x_sub (lv' := _) [0, 1, 2, 3, 4] rfl ?_
          exact ih3 (i + 1) I2 (by omega) (by omega) (by rw [eI2, up_eq, hx1, hJ]; rw [upd_up]; exact seg_s (fun j => I x (f + j) ^^^ strm key n j) _ f (by dsimp only; rw [if_neg (by omega), cByt_congr hB (by omega)]; rfl)) (fun c i hi h => by rw [eI2, up_ne _ _ (Ne.symm hx.1)]; exact hS3 c i hi h) (fun h s hs => by rw [eI2, up_ne _ _ (Ne.symm hx.2), hB s hs, show (i + 1) / 64 = i / 64 by omega]) (by rw [eI2]; exact fJ1.up (by simp))
  refine x_sub (lv' := _) [0, 1, 2, 3, 4] rfl ?_
  exact L3 _ 0 I (Nat.lt_succ_self _) (by omega) (by funext t; rw [if_neg (by omega)]) hS (fun h => absurd rfl h) fx.rf

