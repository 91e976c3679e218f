theorem zLad_cong (x : Int) (s t : Nat → Bool) (n : Nat) (h : ∀ i, i < 255 → s i = t i) : zLad x s n = zLad x t n := by
  induction n with
  | zero => rfl
  | succ n ih => unfold zLad; rw [ih]; simp only [h (254 - n) (by omega)]
theorem scl_cong {f g : Nat → Int32} (h : ∀ j, j < 32 → f j = g j) (j : Nat) (hj : j < 32) : scl f j = scl g j := by
  unfold scl
  rw [h 0 (by decide), h 31 (by decide), h j hj]
theorem dh_cong {f g : Nat → Int32} (b : Nat → Nat) (h : ∀ j, j < 32 → f j = g j) : dhV (bitS (scl f)) b = dhV (bitS (scl g)) b := by
  unfold dhV
  have e : zLad (ptV b) (bitS (scl f)) 255 = zLad (ptV b) (bitS (scl g)) 255 := zLad_cong _ _ _ _ (fun i hi => by
    unfold bitS
    rw [scl_cong h (i / 2 ^ 3) (by omega)])
  rw [e]
theorem pub_cong {f g : Nat → Int32} (h : ∀ j, j < 32 → f j = g j) (j : Nat) : pubF f j = pubF g j := by
  unfold pubF; rw [dh_cong b9 h]
theorem mp_pub (s : Nat → Int32) (j : Nat) : mpF s b9 j = pubF s j := mpF_z s b9 (fun j _ => by unfold b9; split <;> decide) j
theorem fd_T {vi : Int32} {k c : Nat} (h : vi = nI (k - c) - nI 1) (hk : k ≤ 8) (hc : c ≤ k) (g : vi < 0) : c = k := by
  rcases Nat.lt_or_ge c k with h1 | h1
  · rw [pk_sub (by omega)] at h
    rw [h] at g
    exact absurd g (nI_pos (by omega))
  · omega
theorem fd_F {vi : Int32} {k c : Nat} (h : vi = nI (k - c) - nI 1) (hc : c ≤ k) (g : ¬ vi < 0) : c < k := by
  rcases Nat.lt_or_ge c k with h1 | h1
  · exact h1
  · exfalso
    apply g
    rw [h, show k - c = 0 by omega]
    decide +kernel
theorem fd_n (x : Int32) : x + (-1) = x - nI 1 := by
  rw [Int32.sub_eq_add_neg]; congr 1
theorem nI_18 {x : Int32} (h1 : ¬ x < nI 1) (h8 : x ≤ nI 8) : ∃ k, 1 ≤ k ∧ k ≤ 8 ∧ x = nI k := by
  have g0 : (nI 1).toInt ≤ x.toInt := Int32.le_iff_toInt_le.mp (Int32.not_lt.mp h1)
  have g1 : x.toInt ≤ (nI 8).toInt := Int32.le_iff_toInt_le.mp h8
  rw [nI_tI (by decide)] at g0 g1
  exact ⟨x.toInt.toNat, by omega, by omega, sw_nI (by omega) (by omega)⟩
/-- a byte of what is fed, as the class has it -/
def fedC (w : Int64) (vi : Int32) : Int32 := Int64.toInt32 (lusr w (nI 8 * vi)) &&& nI 255
set_option maxHeartbeats 4000000 in
set_option maxRecDepth 100000 in
theorem ok_X4_put {l : Launch} {a0 : Nat} {D : va_G} {sa : Nat → Nat} {T : Nat → Option hKd} {I : Nat → Nat → Int32} {L : Nat → Nat → Int64} {R : Nat → Nat → Option Nat} {A : Nat → Nat} (h b cap s : Nat) (hT : T h = some (.inr 4)) (hR : R h 0 = some b) (hTb : T b = some (.inl (.int, cap))) (hh0 : a0 ≤ A h) (hb0 : a0 ≤ A b) (hhb : h ≠ b) (hcap : cap < 2 ^ 31) (hs : I h 1 = nI s) (hsc : s < cap) (x : Int32) : hM l a0 D sa yX4_put cX4_put 2 none { frames := 0, cells := 0, slots := 0, locals := 0 } [.ref (A h), .int x] (T, I, L, R, A) (fun r G' => r = none ∧ ∃ I', G' = (T, I', L, R, A) ∧ I' b = upd (I b) s x ∧ I' h = upd (I h) 1 (nI (s + 1)) ∧ fx [h, b] I I') := by
  refine hM.of (by decide +kernel) (Nat.le_of_ble_eq_true rfl) ?_
  intro z hl h0 hD hS hN C E
  subst hl; subst h0; subst hD; subst hS
  have C : hC z RX4 cX4_put := C
  have hZ := E.2.2.2.1
  show hX z 0 0 (T, I, L, R, A) [(0, .ref (A h)), (1, .int x)] 0 []
  refine x_aload_n C dX4_put_0 0 rfl rfl ?_
  refine x_getiN C fl_X4_9 hT rfl dX4_put_1 ?_
  refine x_eqi (y := nI s) hs ?_
  refine x_aload_n C dX4_put_4 0 rfl rfl ?_
  refine x_getrN C fl_X4_15 hT rfl hR dX4_put_5 ?_
  refine x_alen C hTb dX4_put_8 ?_
  refine x_icmp_geN (tgt := 32) C (by omega) (by omega) dX4_put_9 (by decide) (fun c9 => absurd c9 (by omega)) (fun c9 => ?_)
  refine x_aload_n C dX4_put_12 0 rfl rfl ?_
  refine x_getrN C fl_X4_15 hT rfl hR dX4_put_13 ?_
  refine x_aload_n C dX4_put_16 0 rfl rfl ?_
  refine x_getiN C fl_X4_9 hT rfl dX4_put_17 ?_
  refine x_eqi (y := nI s) hs ?_
  refine x_iload_n C dX4_put_20 1 rfl rfl ?_
  refine x_iastN C hTb hb0 (by omega) (by omega) dX4_put_21 (fun I1 eI1 => ?_)
  refine x_aload_n C dX4_put_22 0 rfl rfl ?_
  refine x_dup C dX4_put_23 rfl ?_
  refine x_getiN C fl_X4_9 hT rfl dX4_put_24 ?_
  refine x_eqi (y := nI s) (by rw [eI1, va_up_other _ _ hhb]; exact hs) ?_
  refine x_iconst (v := nI 1) C dX4_put_27 (by decide +kernel) ?_
  refine x_iaddN C dX4_put_28 ?_
  refine x_putiN C fl_X4_9 hT hh0 rfl dX4_put_29 (fun I2 eI2 => ?_)
  exact x_vret C E (Nat.le_of_ble_eq_true rfl) (Nat.le_of_ble_eq_true rfl) dX4_put_32 (⟨rfl, _, rfl, by rw [eI2, eI1, va_up_other _ _ (Ne.symm hhb), va_up_same], by rw [eI2, eI1, va_up_same, va_up_other _ _ hhb], by rw [eI2, eI1]; exact (fx.rf.up (by simp)).up (by simp)⟩)

theorem fd_s {I J : Nat → Nat → Int32} {w : Int64} {vi : Int32} {t k c : Nat} (hJb : ∀ j, J 104 j = if t ≤ j ∧ j < t + c then fedC w (nI (k - (j - t)) - nI 1) else I 104 j) (hvi : vi = nI (k - c) - nI 1) (hc : c < k) (j : Nat) : upd (J 104) (t + c) (fedC w vi) j = if t ≤ j ∧ j < t + (c + 1) then fedC w (nI (k - (j - t)) - nI 1) else I 104 j := by
  unfold upd
  by_cases h : j = t + c
  · rw [if_pos h, if_pos (by omega), h, show t + c - t = c by omega, hvi]
  · rw [if_neg h, hJb]
    by_cases h2 : t ≤ j ∧ j < t + c
    · rw [if_pos h2, if_pos (by omega)]
    · rw [if_neg h2, if_neg (by omega)]
set_option maxHeartbeats 4000000 in
set_option maxRecDepth 100000 in
theorem ok_X10_feed {l : Launch} {a0 : Nat} {D : va_G} {sa : Nat → Nat} {T : Nat → Option hKd} {I : Nat → Nat → Int32} {L : Nat → Nat → Int64} {R : Nat → Nat → Option Nat} {A : Nat → Nat} (xO : isX T R A a0) (hsa : ∀ k, k < 5 → sa k = A (90 + k)) (t : Nat) (ht : t ≤ 64) (hs : I 103 1 = nI t) (w : Int64) (n : Int32) : hM l a0 D sa yX10_feed cX10_feed 5 (some .int) { frames := 1, cells := 0, slots := 0, locals := 21 } [.ref (A 100), .long w, .int n] (T, I, L, R, A) (fun r G' => ((n < nI 1 ∨ nI 8 < n) ∧ r = some (.int (-2)) ∧ G' = (T, I, L, R, A)) ∨ ∃ k, 1 ≤ k ∧ k ≤ 8 ∧ n = nI k ∧ ((64 < t + k ∧ r = some (.int (-4)) ∧ G' = (T, I, L, R, A)) ∨ (t + k ≤ 64 ∧ r = some (.int (nI (t + k))) ∧ ∃ I', G' = (T, I', L, R, A) ∧ I' 103 1 = nI (t + k) ∧ (∀ j, I' 104 j = if t ≤ j ∧ j < t + k then fedC w (nI (k - (j - t)) - nI 1) else I 104 j) ∧ fx [103, 104] I I'))) := by
  refine hM.of (by decide +kernel) (Nat.le_of_ble_eq_true rfl) ?_
  intro z hl h0 hD hS hN C E
  subst hl; subst h0; subst hD; subst hS
  have C : hC z RX10 cX10_feed := C
  have hZ := E.2.2.2.1
  show hX z 0 0 (T, I, L, R, A) [(0, .ref (A 100)), (1, .long w), (3, .int n)] 0 []
  refine x_iload_n C dX10_feed_0 2 rfl rfl ?_
  refine x_iconst (v := nI 1) C dX10_feed_1 (by decide +kernel) ?_
  refine x_icmp_lt (tgt := 11) C dX10_feed_2 (by decide) (fun c2 => ?_) (fun c2 => ?_)
  · refine x_bipush (v := (-2)) C dX10_feed_11 (by decide +kernel) ?_
    exact x_iret C E (Nat.le_of_ble_eq_true rfl) (Nat.le_of_ble_eq_true rfl) dX10_feed_13 (Or.inl ⟨by first | exact Or.inl c2 | exact Or.inr (Int32.not_le.mp c8), rfl, rfl⟩)
  · refine x_iload_n C dX10_feed_5 2 rfl rfl ?_
    refine x_bipush (v := nI 8) C dX10_feed_6 (by decide +kernel) ?_
    refine x_icmp_le (tgt := 14) C dX10_feed_8 (by decide) (fun c8 => ?_) (fun c8 => ?_)
    · obtain ⟨k, hk1, hk8, rfl⟩ := nI_18 c2 c8
      refine x_aload_n C dX10_feed_14 0 rfl rfl ?_
      refine x_getrN C fl_X10_26 (xO.1 100 _ rfl).1 rfl (xO.2.1 100 2 _ rfl) dX10_feed_15 ?_
      refine x_getiN C fl_X10_110 (xO.1 103 _ rfl).1 rfl dX10_feed_18 ?_
      refine x_eqi (y := nI t) hs ?_
      refine x_iload_n C dX10_feed_21 2 rfl rfl ?_
      refine x_iaddN C dX10_feed_22 ?_
      refine x_bipush (v := nI 64) C dX10_feed_23 (by decide +kernel) ?_
      refine x_icmp_leN (tgt := 31) C (by omega) (by omega) dX10_feed_25 (by decide) (fun c25 => ?_) (fun c25 => ?_)
      · refine x_iload_n C dX10_feed_31 2 rfl rfl ?_
        refine x_iconst (v := nI 1) C dX10_feed_32 (by decide +kernel) ?_
        refine x_isubN C (by omega) dX10_feed_33 ?_
        refine x_istore (lv' := [(4, .int (nI (k - 1))), (0, .ref (A 100)), (1, .long w), (3, .int (nI k))]) C dX10_feed_34 (Nat.lt_of_lt_of_eq (by decide) hN.symm) rfl ?_
        have L36 : ∀ (fuel_ : Nat) (c : Nat) (vi : Int32) (J : Nat → Nat → Int32), k - c < fuel_ → (c ≤ k) → (vi = nI (k - c) - nI 1) → (J 103 1 = nI (t + c)) → (∀ j, J 104 j = if t ≤ j ∧ j < t + c then fedC w (nI (k - (j - t)) - nI 1) else I 104 j) → (fx [103, 104] I J) → hX z 0 0 (T, J, L, R, A) [(4, .int vi), (0, .ref (A 100)), (1, .long w), (3, .int (nI k))] 36 [] := by
          intro fuel_
          induction fuel_ with
          | zero => intro c vi J hmz; exact absurd hmz (Nat.not_lt_zero _)
          | succ fuel_ ih36 =>
            intro c vi J hmz hc hvi hJs hJb hJf
            refine x_iload C dX10_feed_36 0 rfl ?_
            refine x_if_lt (tgt := 66) C dX10_feed_38 (by decide) (fun c38 => ?_) (fun c38 => ?_)
            · refine x_aload_n C dX10_feed_66 1 rfl rfl ?_
              refine x_getrN C fl_X10_26 (xO.1 100 _ rfl).1 rfl (xO.2.1 100 2 _ rfl) dX10_feed_67 ?_
              refine x_getiN C fl_X10_110 (xO.1 103 _ rfl).1 rfl dX10_feed_70 ?_
              refine x_eqi (y := nI (t + c)) hJs ?_
              exact x_iret C E (Nat.le_of_ble_eq_true rfl) (Nat.le_of_ble_eq_true rfl) dX10_feed_73 (Or.inr ⟨k, hk1, hk8, rfl, Or.inr ⟨by omega, by rw [fd_T hvi hk8 hc c38], J, rfl, by rw [hJs, fd_T hvi hk8 hc c38], fun j => by rw [hJb j, fd_T hvi hk8 hc c38], hJf⟩⟩)
            · refine x_aload_n C dX10_feed_41 1 rfl rfl ?_
              refine x_getrN C fl_X10_26 (xO.1 100 _ rfl).1 rfl (xO.2.1 100 2 _ rfl) dX10_feed_42 ?_
              refine x_lload_n C dX10_feed_45 2 rfl rfl ?_
              refine x_bipush (v := nI 8) C dX10_feed_46 (by decide +kernel) ?_
              refine x_iload C dX10_feed_48 0 rfl ?_
              refine x_imul C dX10_feed_50 ?_
              refine x_lushr C dX10_feed_51 ?_
              refine x_l2i C dX10_feed_52 ?_
              refine x_sipush (v := nI 255) C dX10_feed_53 (by decide +kernel) ?_
              refine x_iand C dX10_feed_56 ?_
              refine x_callV C (ok_X4_put 103 104 64 (t + c) (xO.1 103 _ rfl).1 (xO.2.1 103 0 _ rfl) (xO.1 104 _ rfl).1 (xO.1 103 _ rfl).2 (xO.1 104 _ rfl).2 (by decide) (by decide) hJs (by have := fd_F hvi hc c38; omega) ((Int64.toInt32 (lusr w ((nI 8) * vi))) &&& (nI 255))) mv_X4_put ml_X10_113 (xO.1 103 _ rfl).1 rfl rfl rfl (Nat.le_of_ble_eq_true rfl) (hrm (rm := { frames := 0, cells := 0, slots := 0, locals := 0 }) hZ ⟨Nat.le_of_ble_eq_true rfl, Nat.le_of_ble_eq_true rfl⟩) (hcs hZ ⟨Nat.le_of_ble_eq_true rfl, Nat.le_of_ble_eq_true rfl⟩) dX10_feed_57 (fun v G' hp => ?_)
              obtain ⟨rfl, K, rfl, k1, k2, k3⟩ := hp
              show hX z 0 0 (T, K, L, R, A) [(4, .int vi), (0, .ref (A 100)), (1, .long w), (3, .int (nI k))] 60 []
              refine x_iinc (v := vi + (-1)) (lv' := [(4, .int (vi + (-1))), (0, .ref (A 100)), (1, .long w), (3, .int (nI k))]) C dX10_feed_60 0 rfl (by rfl) (Nat.lt_of_lt_of_eq (by decide) hN.symm) rfl ?_
              refine x_goto (tgt := 36) C dX10_feed_63 (by decide) ?_
              refine x_sub (lv' := _) [0, 1, 2, 3] rfl ?_
              exact ih36 (c + 1) (vi + (-1)) K (by have := fd_F hvi hc c38; omega) (fd_F hvi hc c38) (by have h1 := fd_F hvi hc c38; rw [hvi, show k - c = k - (c + 1) + 1 by omega, pk_sub (by omega), Nat.add_sub_cancel]; exact fd_n _) (by rw [k2]; rfl) (fun j => by have h1 := fd_F hvi hc c38; rw [k1]; exact fd_s hJb hvi h1 j) (hJf.tr k3 (by simp))
        refine x_sub (lv' := _) [0, 1, 2, 3] rfl ?_
        exact L36 _ 0 (nI (k - 1)) I (Nat.lt_succ_self _) (by omega) (by rw [Nat.sub_zero, pk_sub hk1]) hs (fun j => by rw [if_neg (by omega)]) fx.rf
      · refine x_bipush (v := (-4)) C dX10_feed_28 (by decide +kernel) ?_
        exact x_iret C E (Nat.le_of_ble_eq_true rfl) (Nat.le_of_ble_eq_true rfl) dX10_feed_30 (Or.inr ⟨k, hk1, hk8, rfl, Or.inl ⟨by omega, rfl, rfl⟩⟩)
    · refine x_bipush (v := (-2)) C dX10_feed_11 (by decide +kernel) ?_
      exact x_iret C E (Nat.le_of_ble_eq_true rfl) (Nat.le_of_ble_eq_true rfl) dX10_feed_13 (Or.inl ⟨by first | exact Or.inl c2 | exact Or.inr (Int32.not_le.mp c8), rfl, rfl⟩)

set_option maxHeartbeats 4000000 in
set_option maxRecDepth 100000 in
theorem ok_X9_publicOf {l : Launch} {a0 : Nat} {D : va_G} {sa : Nat → Nat} {T : Nat → Option hKd} {I : Nat → Nat → Int32} {L : Nat → Nat → Int64} {R : Nat → Nat → Option Nat} {A : Nat → Nat} (xO : isX T R A a0) (hsa : ∀ k, k < 5 → sa k = A (90 + k)) (p q r s : Nat) (h4 : cv4 R p q r s) (v jv : Int32) (u nu : Nat) (hst : stI I) (hTu : T u = some (.inl (.int, nu))) (hnu : nu < 2 ^ 31) (hnu2 : 32 ≤ nu) (hu0 : a0 ≤ A u) (hu : u ≠ 122 ∧ u ≠ 111 ∧ u ≠ 112 ∧ u ≠ 113 ∧ u ≠ 151) : hM l a0 D sa yX9_publicOf cX9_publicOf 4 none { frames := 5, cells := 0, slots := 0, locals := 184 } [.ref (A 109), .int v, .int jv, .ref (A u)] (T, I, L, R, A) (fun x G' => x = none ∧ ∃ I' L' R', G' = (T, I', L', R', A) ∧ (∀ t, t < 32 → I' u t = pubF (secF v jv) t) ∧ (∀ t, 32 ≤ t → I' u t = I u t) ∧ fx [111, 112, 113, 122, 151, u] I I' ∧ fr121 R R' ∧ ∃ p q r s, cv4 R' p q r s) := by
  refine hM.of (by decide +kernel) (Nat.le_of_ble_eq_true rfl) ?_
  intro z hl h0 hD hS hN C E
  subst hl; subst h0; subst hD; subst hS
  have C : hC z RX9 cX9_publicOf := C
  have hZ := E.2.2.2.1
  show hX z 0 0 (T, I, L, R, A) [(0, .ref (A 109)), (1, .int v), (2, .int jv), (3, .ref (A u))] 0 []
  refine x_aload_n C dX9_publicOf_0 0 rfl rfl ?_
  refine x_iload_n C dX9_publicOf_1 1 rfl rfl ?_
  refine x_iload_n C dX9_publicOf_2 2 rfl rfl ?_
  refine x_aload_n C dX9_publicOf_3 0 rfl rfl ?_
  refine x_getrN C fl_X9_46 (xO.1 109 _ rfl).1 rfl (xO.2.1 109 5 _ rfl) dX9_publicOf_4 ?_
  refine x_callV C (ok_X9_secretOf xO hsa v jv 151 32 hst (xO.1 151 _ rfl).1 (by decide) (by decide) (xO.1 151 _ rfl).2 (by decide)) mv_X9_secretOf ml_X9_72 (xO.1 109 _ rfl).1 rfl rfl rfl (Nat.le_of_ble_eq_true rfl) (hrm (rm := { frames := 0, cells := 0, slots := 0, locals := 0 }) hZ ⟨Nat.le_of_ble_eq_true rfl, Nat.le_of_ble_eq_true rfl⟩) (hcs hZ ⟨Nat.le_of_ble_eq_true rfl, Nat.le_of_ble_eq_true rfl⟩) dX9_publicOf_7 (fun v G' hp => ?_)
  obtain ⟨rfl, J, rfl, j1, j2⟩ := hp
  have sJ : stI J := j2.st (by intro k hk; simp; omega) hst
  show hX z 0 0 (T, J, L, R, A) [(0, .ref (A 109)), (1, .int v), (2, .int jv), (3, .ref (A u))] 10 []
  refine x_aload_n C dX9_publicOf_10 0 rfl rfl ?_
  refine x_getrN C fl_X9_28 (xO.1 109 _ rfl).1 rfl (xO.2.1 109 2 _ rfl) dX9_publicOf_11 ?_
  refine x_aload_n C dX9_publicOf_14 0 rfl rfl ?_
  refine x_getrN C fl_X9_46 (xO.1 109 _ rfl).1 rfl (xO.2.1 109 5 _ rfl) dX9_publicOf_15 ?_
  refine x_getsN (k := 3) C (hsa 3 (by decide)) rfl sl_X9_76 dX9_publicOf_18 ?_
  refine x_aload_n C dX9_publicOf_21 3 rfl rfl ?_
  refine x_callV C (ok_X1_multiplyPoint xO hsa p q r s h4 151 32 93 32 u nu b9 (xO.1 151 _ rfl).1 (by decide) (by decide) (xO.2.2 93 _ rfl) (by decide) (by decide) (by decide) hTu hu0 hnu hnu2 hu.1 (fun j hj => ⟨(sJ.2.2.1 j hj).trans (by unfold b9; split <;> rfl), by unfold b9; split <;> decide⟩)) mv_X1_multiplyPoint ml_X9_79 (xO.1 121 _ rfl).1 rfl rfl rfl (Nat.le_of_ble_eq_true rfl) (hrm (rm := { frames := 0, cells := 0, slots := 0, locals := 0 }) hZ ⟨Nat.le_of_ble_eq_true rfl, Nat.le_of_ble_eq_true rfl⟩) (hcs hZ ⟨Nat.le_of_ble_eq_true rfl, Nat.le_of_ble_eq_true rfl⟩) dX9_publicOf_22 (fun v G' hp => ?_)
  obtain ⟨rfl, K, L1, R1, rfl, k1, k2, k3, k4⟩ := hp
  show hX z 0 0 (T, K, L1, R1, A) [(0, .ref (A 109)), (1, .int v), (2, .int jv), (3, .ref (A u))] 25 []
  exact x_vret C E (Nat.le_of_ble_eq_true rfl) (Nat.le_of_ble_eq_true rfl) dX9_publicOf_25 (⟨rfl, K, L1, R1, rfl, fun t ht => by rw [k1]; simp only [ht, if_true]; rw [mp_pub]; exact pub_cong (fun j hj => by rw [j1]; simp only [hj, if_true]) t, fun t ht => by rw [k1]; simp only [Nat.not_lt.mpr ht, if_false]; rw [j2 u (by simp [hu])], (j2.wk (by first | (simp; done) | (intro q hq; simp at hq ⊢; omega))).tr k2 (by first | (simp; done) | (intro q hq; simp at hq ⊢; omega)), k3, k4⟩)

theorem isX.r121 {T : Nat → Option hKd} {R R' : Nat → Nat → Option Nat} {A : Nat → Nat} {a0 : Nat} (h : isX T R A a0) (f : fr121 R R') : isX T R' A a0 := by
  refine ⟨h.1, fun q k r e => ?_, h.2.2⟩
  have e1 := h.2.1 q k r e
  by_cases hq : q = 121
  · subst hq
    have hk : k < 2 ∨ 5 < k := by
      rcases Nat.lt_or_ge k 2 with h1 | h1
      · exact Or.inl h1
      · rcases Nat.lt_or_ge 5 k with h2 | h2
        · exact Or.inr h2
        · exfalso
          have : ∀ k, k < 6 → 2 ≤ k → xRf 121 k = none := by decide +kernel
          rw [this k (by omega) h1] at e
          cases e
    rw [f.2 k hk]; exact e1
  · rw [f.1 q hq]; exact e1
set_option maxHeartbeats 4000000 in
set_option maxRecDepth 100000 in
theorem ok_X10_key {l : Launch} {a0 : Nat} {D : va_G} {sa : Nat → Nat} {T : Nat → Option hKd} {I : Nat → Nat → Int32} {L : Nat → Nat → Int64} {R : Nat → Nat → Option Nat} {A : Nat → Nat} (xO : isX T R A a0) (hsa : ∀ k, k < 5 → sa k = A (90 + k)) (p q r s : Nat) (h4 : cv4 R p q r s) (hst : stI I) (v jv i : Int32) : hM l a0 D sa yX10_key cX10_key 4 (some .int) { frames := 6, cells := 0, slots := 0, locals := 207 } [.ref (A 100), .int v, .int jv, .int i] (T, I, L, R, A) (fun x G' => ((i < 0 ∨ nI 32 ≤ i) ∧ x = some (.int (-2)) ∧ G' = (T, I, L, R, A)) ∨ ∃ k, k < 32 ∧ i = nI k ∧ x = some (.int (pubF (secF v jv) k)) ∧ ∃ I' L' R', G' = (T, I', L', R', A) ∧ fx [111, 112, 113, 122, 151, 155] I I' ∧ fr121 R R' ∧ ∃ p q r s, cv4 R' p q r s) := by
  refine hM.of (by decide +kernel) (Nat.le_of_ble_eq_true rfl) ?_
  intro z hl h0 hD hS hN C E
  subst hl; subst h0; subst hD; subst hS
  have C : hC z RX10 cX10_key := C
  have hZ := E.2.2.2.1
  show hX z 0 0 (T, I, L, R, A) [(0, .ref (A 100)), (1, .int v), (2, .int jv), (3, .int i)] 0 []
  refine x_iload_n C dX10_key_0 3 rfl rfl ?_
  refine x_if_lt (tgt := 10) C dX10_key_1 (by decide) (fun c1 => ?_) (fun c1 => ?_)
  · refine x_bipush (v := (-2)) C dX10_key_10 (by decide +kernel) ?_
    exact x_iret C E (Nat.le_of_ble_eq_true rfl) (Nat.le_of_ble_eq_true rfl) dX10_key_12 (Or.inl ⟨by first | exact Or.inl c1 | exact Or.inr (Int32.not_lt.mp c7), rfl, rfl⟩)
  · refine x_iload_n C dX10_key_4 3 rfl rfl ?_
    refine x_bipush (v := nI 32) C dX10_key_5 (by decide +kernel) ?_
    refine x_icmp_lt (tgt := 13) C dX10_key_7 (by decide) (fun c7 => ?_) (fun c7 => ?_)
    · obtain ⟨k, hk, rfl⟩ := nI_ofx c1 c7 (by decide)
      refine x_aload_n C dX10_key_13 0 rfl rfl ?_
      refine x_getrN C fl_X10_39 (xO.1 100 _ rfl).1 rfl (xO.2.1 100 5 _ rfl) dX10_key_14 ?_
      refine x_iload_n C dX10_key_17 1 rfl rfl ?_
      refine x_iload_n C dX10_key_18 2 rfl rfl ?_
      refine x_aload_n C dX10_key_19 0 rfl rfl ?_
      refine x_getrN C fl_X10_43 (xO.1 100 _ rfl).1 rfl (xO.2.1 100 6 _ rfl) dX10_key_20 ?_
      refine x_callV C (ok_X9_publicOf xO hsa p q r s h4 v jv 155 32 hst (xO.1 155 _ rfl).1 (by decide) (by decide) (xO.1 155 _ rfl).2 (by decide)) mv_X9_publicOf ml_X10_159 (xO.1 109 _ rfl).1 rfl rfl rfl (Nat.le_of_ble_eq_true rfl) (hrm (rm := { frames := 0, cells := 0, slots := 0, locals := 0 }) hZ ⟨Nat.le_of_ble_eq_true rfl, Nat.le_of_ble_eq_true rfl⟩) (hcs hZ ⟨Nat.le_of_ble_eq_true rfl, Nat.le_of_ble_eq_true rfl⟩) dX10_key_23 (fun v G' hp => ?_)
      obtain ⟨rfl, K, L1, R1, rfl, k1, k2, k3, k4, k5⟩ := hp
      have xO := isX.r121 xO k4
      show hX z 0 0 (T, K, L1, R1, A) [(0, .ref (A 100)), (1, .int v), (2, .int jv), (3, .int (nI k))] 26 []
      refine x_aload_n C dX10_key_26 0 rfl rfl ?_
      refine x_getrN C fl_X10_43 (xO.1 100 _ rfl).1 rfl (xO.2.1 100 6 _ rfl) dX10_key_27 ?_
      refine x_iload_n C dX10_key_30 3 rfl rfl ?_
      refine x_ialdN C (xO.1 155 _ rfl).1 (by omega) (by omega) dX10_key_31 ?_
      refine x_eqi (y := pubF (secF v jv) k) (k1 k hk) ?_
      exact x_iret C E (Nat.le_of_ble_eq_true rfl) (Nat.le_of_ble_eq_true rfl) dX10_key_32 (Or.inr ⟨k, hk, rfl, rfl, K, L1, R1, rfl, k3, k4, k5⟩)
    · refine x_bipush (v := (-2)) C dX10_key_10 (by decide +kernel) ?_
      exact x_iret C E (Nat.le_of_ble_eq_true rfl) (Nat.le_of_ble_eq_true rfl) dX10_key_12 (Or.inl ⟨by first | exact Or.inl c1 | exact Or.inr (Int32.not_lt.mp c7), rfl, rfl⟩)

