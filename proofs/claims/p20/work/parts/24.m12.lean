set_option maxHeartbeats 4000000 in
set_option maxRecDepth 100000 in
theorem ok_X9_secretOf {l : Launch} {a0 : Nat} {D : va_G} {sa : Nat → Nat} {T : Nat → Option hKd} {I : Nat → Nat → Int32} {L : Nat → Nat → Int64} {R : Nat → Nat → Option Nat} {A : Nat → Nat} (xO : isX T R A a0) (hsa : ∀ k, k < 5 → sa k = A (90 + k)) (v jv : Int32) (u nu : Nat) (hst : stI I) (hTu : T u = some (.inl (.int, nu))) (hnu : nu < 2 ^ 31) (hnu2 : 32 ≤ nu) (hu0 : a0 ≤ A u) (hu : u ≠ 111 ∧ u ≠ 112 ∧ u ≠ 113) : hM l a0 D sa yX9_secretOf cX9_secretOf 4 none { frames := 3, cells := 0, slots := 0, locals := 78 } [.ref (A 109), .int v, .int jv, .ref (A u)] (T, I, L, R, A) (fun r G' => r = none ∧ ∃ I', G' = (T, I', L, R, A) ∧ I' u = (fun j => if j < 32 then secF v jv j else I u j) ∧ fx [111, 112, 113, u] I I') := by
  refine hM.of (by decide +kernel) (Nat.le_of_ble_eq_true rfl) ?_
  intro z hl h0 hD hS hN C E
  subst hl; subst h0; subst hD; subst hS
  have C : hC z RX9 cX9_secretOf := C
  have hZ := E.2.2.2.1
  show hX z 0 0 (T, I, L, R, A) [(0, .ref (A 109)), (1, .int v), (2, .int jv), (3, .ref (A u))] 0 []
  refine x_aload_n C dX9_secretOf_0 0 rfl rfl ?_
  refine x_getrN C fl_X9_12 (xO.1 109 _ rfl).1 rfl (xO.2.1 109 0 _ rfl) dX9_secretOf_1 ?_
  refine x_callV C (ok_X5_begin 111 112 113 (xO.1 111 _ rfl).1 (xO.2.1 111 0 _ rfl) (xO.2.1 111 1 _ rfl) (xO.1 112 _ rfl).1 (xO.1 113 _ rfl).1 (xO.1 111 _ rfl).2 (xO.1 112 _ rfl).2 (xO.1 113 _ rfl).2 (by decide) (by decide) (by decide) (secM v jv) hsa (xO.2.2 91 _ rfl) hst.1) mv_X5_begin ml_X9_62 (xO.1 111 _ rfl).1 rfl rfl rfl (Nat.le_of_ble_eq_true rfl) (hrm (rm := { frames := 0, cells := 0, slots := 0, locals := 0 }) hZ ⟨Nat.le_of_ble_eq_true rfl, Nat.le_of_ble_eq_true rfl⟩) (hcs hZ ⟨Nat.le_of_ble_eq_true rfl, Nat.le_of_ble_eq_true rfl⟩) dX9_secretOf_4 (fun v G' hp => ?_)
  obtain ⟨rfl, J1, rfl, a1, g1⟩ := hp
  have f1 := fx.of3 g1
  have st1 : stI J1 := f1.st (by decide) hst
  show hX z 0 0 (T, J1, L, R, A) [(0, .ref (A 109)), (1, .int v), (2, .int jv), (3, .ref (A u))] 7 []
  refine x_aload_n C dX9_secretOf_7 0 rfl rfl ?_
  refine x_getrN C fl_X9_12 (xO.1 109 _ rfl).1 rfl (xO.2.1 109 0 _ rfl) dX9_secretOf_8 ?_
  refine x_iload_n C dX9_secretOf_11 1 rfl rfl ?_
  refine x_callV C (ok_X5_addNumber 111 112 113 (xO.1 111 _ rfl).1 (xO.2.1 111 0 _ rfl) (xO.2.1 111 1 _ rfl) (xO.1 112 _ rfl).1 (xO.1 113 _ rfl).1 (xO.1 111 _ rfl).2 (xO.1 112 _ rfl).2 (xO.1 113 _ rfl).2 (by decide) (by decide) (by decide) hsa (xO.2.2 92 _ rfl) st1.2.1 ⟨by decide, by decide, by decide⟩ (secM v jv) 0 v a1 (fun q hq => by rw [Nat.zero_add, sec_lo v jv hq, pk_sub (by omega)])) mv_X5_addNumber ml_X9_65 (xO.1 111 _ rfl).1 rfl rfl rfl (Nat.le_of_ble_eq_true rfl) (hrm (rm := { frames := 0, cells := 0, slots := 0, locals := 0 }) hZ ⟨Nat.le_of_ble_eq_true rfl, Nat.le_of_ble_eq_true rfl⟩) (hcs hZ ⟨Nat.le_of_ble_eq_true rfl, Nat.le_of_ble_eq_true rfl⟩) dX9_secretOf_12 (fun v G' hp => ?_)
  obtain ⟨rfl, J2, rfl, a2, g2⟩ := hp
  have f2 := f1.tr (fx.of3 g2) (by first | (simp; done) | (intro q hq; simp at hq ⊢; omega))
  have st2 : stI J2 := f2.st (by decide) hst
  show hX z 0 0 (T, J2, L, R, A) [(0, .ref (A 109)), (1, .int v), (2, .int jv), (3, .ref (A u))] 15 []
  refine x_aload_n C dX9_secretOf_15 0 rfl rfl ?_
  refine x_getrN C fl_X9_12 (xO.1 109 _ rfl).1 rfl (xO.2.1 109 0 _ rfl) dX9_secretOf_16 ?_
  refine x_iload_n C dX9_secretOf_19 2 rfl rfl ?_
  refine x_callV C (ok_X5_addNumber 111 112 113 (xO.1 111 _ rfl).1 (xO.2.1 111 0 _ rfl) (xO.2.1 111 1 _ rfl) (xO.1 112 _ rfl).1 (xO.1 113 _ rfl).1 (xO.1 111 _ rfl).2 (xO.1 112 _ rfl).2 (xO.1 113 _ rfl).2 (by decide) (by decide) (by decide) hsa (xO.2.2 92 _ rfl) st2.2.1 ⟨by decide, by decide, by decide⟩ (secM v jv) 4 jv a2 (fun q hq => by rw [sec_hi v jv hq, pk_sub (by omega)])) mv_X5_addNumber ml_X9_65 (xO.1 111 _ rfl).1 rfl rfl rfl (Nat.le_of_ble_eq_true rfl) (hrm (rm := { frames := 0, cells := 0, slots := 0, locals := 0 }) hZ ⟨Nat.le_of_ble_eq_true rfl, Nat.le_of_ble_eq_true rfl⟩) (hcs hZ ⟨Nat.le_of_ble_eq_true rfl, Nat.le_of_ble_eq_true rfl⟩) dX9_secretOf_20 (fun v G' hp => ?_)
  obtain ⟨rfl, J3, rfl, a3, g3⟩ := hp
  have f3 := f2.tr (fx.of3 g3) (by first | (simp; done) | (intro q hq; simp at hq ⊢; omega))
  have st3 : stI J3 := f3.st (by decide) hst
  show hX z 0 0 (T, J3, L, R, A) [(0, .ref (A 109)), (1, .int v), (2, .int jv), (3, .ref (A u))] 23 []
  refine x_aload_n C dX9_secretOf_23 0 rfl rfl ?_
  refine x_getrN C fl_X9_12 (xO.1 109 _ rfl).1 rfl (xO.2.1 109 0 _ rfl) dX9_secretOf_24 ?_
  refine x_aload_n C dX9_secretOf_27 3 rfl rfl ?_
  refine x_callV C (ok_X5_finish 111 112 113 (xO.1 111 _ rfl).1 (xO.2.1 111 0 _ rfl) (xO.2.1 111 1 _ rfl) (xO.1 112 _ rfl).1 (xO.1 113 _ rfl).1 (xO.1 111 _ rfl).2 (xO.1 112 _ rfl).2 (xO.1 113 _ rfl).2 (by decide) (by decide) (by decide) hsa (xO.2.2 92 _ rfl) st3.2.1 ⟨by decide, by decide, by decide⟩ (secM v jv) 8 u nu a3 (by decide) hTu hnu hnu2 hu0 hu) mv_X5_finish ml_X9_68 (xO.1 111 _ rfl).1 rfl rfl rfl (Nat.le_of_ble_eq_true rfl) (hrm (rm := { frames := 0, cells := 0, slots := 0, locals := 0 }) hZ ⟨Nat.le_of_ble_eq_true rfl, Nat.le_of_ble_eq_true rfl⟩) (hcs hZ ⟨Nat.le_of_ble_eq_true rfl, Nat.le_of_ble_eq_true rfl⟩) dX9_secretOf_28 (fun v G' hp => ?_)
  obtain ⟨rfl, J4, rfl, i4, g4⟩ := hp
  show hX z 0 0 (T, J4, L, R, A) [(0, .ref (A 109)), (1, .int v), (2, .int jv), (3, .ref (A u))] 31 []
  exact x_vret C E (Nat.le_of_ble_eq_true rfl) (Nat.le_of_ble_eq_true rfl) dX9_secretOf_31 (⟨rfl, J4, rfl, by rw [i4, f3 u (by simp [hu])]; rfl, (f3.wk (by first | (simp; done) | (intro q hq; simp at hq ⊢; omega))).tr (fx.of4 g4) (by first | (simp; done) | (intro q hq; simp at hq ⊢; omega))⟩)

set_option maxHeartbeats 4000000 in
set_option maxRecDepth 100000 in
theorem ok_X9_mixHash {l : Launch} {a0 : Nat} {D : va_G} {sa : Nat → Nat} {T : Nat → Option hKd} {I : Nat → Nat → Int32} {L : Nat → Nat → Int64} {R : Nat → Nat → Option Nat} {A : Nat → Nat} (xO : isX T R A a0) (hsa : ∀ k, k < 5 → sa k = A (90 + k)) (s h x nx b c : Nat) (hst : stI I) (hTs : T s = some (.inr 7)) (hRh : R s 1 = some h) (hTh : T h = some (.inl (.int, 32))) (hh0 : a0 ≤ A h) (hh : h ≠ 111 ∧ h ≠ 112 ∧ h ≠ 113) (hTx : T x = some (.inl (.int, nx))) (hnx : nx < 2 ^ 19) (hbc : b ≤ c) (hcn : c ≤ nx) (hx : x ≠ 111 ∧ x ≠ 112 ∧ x ≠ 113) : hM l a0 D sa yX9_mixHash cX9_mixHash 5 none { frames := 3, cells := 0, slots := 0, locals := 78 } [.ref (A 109), .ref (A s), .ref (A x), .int (nI b), .int (nI c)] (T, I, L, R, A) (fun r G' => r = none ∧ ∃ I', G' = (T, I', L, R, A) ∧ I' h = (fun j => if j < 32 then mixF (I h) (fun i => I x (b + i)) (c - b) j else I h j) ∧ fx [111, 112, 113, h] I I') := by
  refine hM.of (by decide +kernel) (Nat.le_of_ble_eq_true rfl) ?_
  intro z hl h0 hD hS hN C E
  subst hl; subst h0; subst hD; subst hS
  have C : hC z RX9 cX9_mixHash := C
  have hZ := E.2.2.2.1
  show hX z 0 0 (T, I, L, R, A) [(0, .ref (A 109)), (1, .ref (A s)), (2, .ref (A x)), (3, .int (nI b)), (4, .int (nI c))] 0 []
  refine x_aload_n C dX9_mixHash_0 0 rfl rfl ?_
  refine x_getrN C fl_X9_12 (xO.1 109 _ rfl).1 rfl (xO.2.1 109 0 _ rfl) dX9_mixHash_1 ?_
  refine x_callV C (ok_X5_begin 111 112 113 (xO.1 111 _ rfl).1 (xO.2.1 111 0 _ rfl) (xO.2.1 111 1 _ rfl) (xO.1 112 _ rfl).1 (xO.1 113 _ rfl).1 (xO.1 111 _ rfl).2 (xO.1 112 _ rfl).2 (xO.1 113 _ rfl).2 (by decide) (by decide) (by decide) (hmC (I h) (fun i => I x (b + i)) 32) hsa (xO.2.2 91 _ rfl) hst.1) mv_X5_begin ml_X9_62 (xO.1 111 _ rfl).1 rfl rfl rfl (Nat.le_of_ble_eq_true rfl) (hrm (rm := { frames := 0, cells := 0, slots := 0, locals := 0 }) hZ ⟨Nat.le_of_ble_eq_true rfl, Nat.le_of_ble_eq_true rfl⟩) (hcs hZ ⟨Nat.le_of_ble_eq_true rfl, Nat.le_of_ble_eq_true rfl⟩) dX9_mixHash_4 (fun v G' hp => ?_)
  obtain ⟨rfl, J1, rfl, a1, g1⟩ := hp
  have f1 := fx.of3 g1
  have st1 : stI J1 := f1.st (by decide) hst
  show hX z 0 0 (T, J1, L, R, A) [(0, .ref (A 109)), (1, .ref (A s)), (2, .ref (A x)), (3, .int (nI b)), (4, .int (nI c))] 7 []
  refine x_aload_n C dX9_mixHash_7 0 rfl rfl ?_
  refine x_getrN C fl_X9_12 (xO.1 109 _ rfl).1 rfl (xO.2.1 109 0 _ rfl) dX9_mixHash_8 ?_
  refine x_aload_n C dX9_mixHash_11 1 rfl rfl ?_
  refine x_getrN C fl_X9_104 hTs rfl hRh dX9_mixHash_12 ?_
  refine x_iconst (v := nI 0) C dX9_mixHash_15 (by decide +kernel) ?_
  refine x_bipush (v := nI 32) C dX9_mixHash_16 (by decide +kernel) ?_
  refine x_callV C (ok_X5_add 111 112 113 (xO.1 111 _ rfl).1 (xO.2.1 111 0 _ rfl) (xO.2.1 111 1 _ rfl) (xO.1 112 _ rfl).1 (xO.1 113 _ rfl).1 (xO.1 111 _ rfl).2 (xO.1 112 _ rfl).2 (xO.1 113 _ rfl).2 (by decide) (by decide) (by decide) hsa (xO.2.2 92 _ rfl) st1.2.1 ⟨by decide, by decide, by decide⟩ (hmC (I h) (fun i => I x (b + i)) 32) 0 h 32 0 32 a1 hTh (by decide) (by decide) (by decide) hh (fun i hi => by rw [f1 h (by simp [hh]), Nat.zero_add]; unfold hmC; rw [if_pos (by omega)])) mv_X5_add ml_X9_244 (xO.1 111 _ rfl).1 rfl rfl rfl (Nat.le_of_ble_eq_true rfl) (hrm (rm := { frames := 0, cells := 0, slots := 0, locals := 0 }) hZ ⟨Nat.le_of_ble_eq_true rfl, Nat.le_of_ble_eq_true rfl⟩) (hcs hZ ⟨Nat.le_of_ble_eq_true rfl, Nat.le_of_ble_eq_true rfl⟩) dX9_mixHash_18 (fun v G' hp => ?_)
  obtain ⟨rfl, J2, rfl, a2, g2⟩ := hp
  have f2 := f1.tr (fx.of3 g2) (by first | (simp; done) | (intro q hq; simp at hq ⊢; omega))
  have st2 : stI J2 := f2.st (by decide) hst
  show hX z 0 0 (T, J2, L, R, A) [(0, .ref (A 109)), (1, .ref (A s)), (2, .ref (A x)), (3, .int (nI b)), (4, .int (nI c))] 21 []
  refine x_aload_n C dX9_mixHash_21 0 rfl rfl ?_
  refine x_getrN C fl_X9_12 (xO.1 109 _ rfl).1 rfl (xO.2.1 109 0 _ rfl) dX9_mixHash_22 ?_
  refine x_aload_n C dX9_mixHash_25 2 rfl rfl ?_
  refine x_iload_n C dX9_mixHash_26 3 rfl rfl ?_
  refine x_iload C dX9_mixHash_27 4 rfl ?_
  refine x_callV C (ok_X5_add 111 112 113 (xO.1 111 _ rfl).1 (xO.2.1 111 0 _ rfl) (xO.2.1 111 1 _ rfl) (xO.1 112 _ rfl).1 (xO.1 113 _ rfl).1 (xO.1 111 _ rfl).2 (xO.1 112 _ rfl).2 (xO.1 113 _ rfl).2 (by decide) (by decide) (by decide) hsa (xO.2.2 92 _ rfl) st2.2.1 ⟨by decide, by decide, by decide⟩ (hmC (I h) (fun i => I x (b + i)) 32) 32 x nx b c a2 hTx (by omega) hbc hcn hx (fun i hi => by rw [f2 x (by simp [hx])]; unfold hmC; rw [if_neg (by omega), show 32 + i - 32 = i by omega])) mv_X5_add ml_X9_244 (xO.1 111 _ rfl).1 rfl rfl rfl (Nat.le_of_ble_eq_true rfl) (hrm (rm := { frames := 0, cells := 0, slots := 0, locals := 0 }) hZ ⟨Nat.le_of_ble_eq_true rfl, Nat.le_of_ble_eq_true rfl⟩) (hcs hZ ⟨Nat.le_of_ble_eq_true rfl, Nat.le_of_ble_eq_true rfl⟩) dX9_mixHash_29 (fun v G' hp => ?_)
  obtain ⟨rfl, J3, rfl, a3, g3⟩ := hp
  have f3 := f2.tr (fx.of3 g3) (by first | (simp; done) | (intro q hq; simp at hq ⊢; omega))
  have st3 : stI J3 := f3.st (by decide) hst
  show hX z 0 0 (T, J3, L, R, A) [(0, .ref (A 109)), (1, .ref (A s)), (2, .ref (A x)), (3, .int (nI b)), (4, .int (nI c))] 32 []
  refine x_aload_n C dX9_mixHash_32 0 rfl rfl ?_
  refine x_getrN C fl_X9_12 (xO.1 109 _ rfl).1 rfl (xO.2.1 109 0 _ rfl) dX9_mixHash_33 ?_
  refine x_aload_n C dX9_mixHash_36 1 rfl rfl ?_
  refine x_getrN C fl_X9_104 hTs rfl hRh dX9_mixHash_37 ?_
  refine x_callV C (ok_X5_finish 111 112 113 (xO.1 111 _ rfl).1 (xO.2.1 111 0 _ rfl) (xO.2.1 111 1 _ rfl) (xO.1 112 _ rfl).1 (xO.1 113 _ rfl).1 (xO.1 111 _ rfl).2 (xO.1 112 _ rfl).2 (xO.1 113 _ rfl).2 (by decide) (by decide) (by decide) hsa (xO.2.2 92 _ rfl) st3.2.1 ⟨by decide, by decide, by decide⟩ (hmC (I h) (fun i => I x (b + i)) 32) (32 + (c - b)) h 32 a3 (by omega) hTh (by decide) (by decide) hh0 hh) mv_X5_finish ml_X9_68 (xO.1 111 _ rfl).1 rfl rfl rfl (Nat.le_of_ble_eq_true rfl) (hrm (rm := { frames := 0, cells := 0, slots := 0, locals := 0 }) hZ ⟨Nat.le_of_ble_eq_true rfl, Nat.le_of_ble_eq_true rfl⟩) (hcs hZ ⟨Nat.le_of_ble_eq_true rfl, Nat.le_of_ble_eq_true rfl⟩) dX9_mixHash_40 (fun v G' hp => ?_)
  obtain ⟨rfl, J4, rfl, i4, g4⟩ := hp
  show hX z 0 0 (T, J4, L, R, A) [(0, .ref (A 109)), (1, .ref (A s)), (2, .ref (A x)), (3, .int (nI b)), (4, .int (nI c))] 43 []
  exact x_vret C E (Nat.le_of_ble_eq_true rfl) (Nat.le_of_ble_eq_true rfl) dX9_mixHash_43 (⟨rfl, J4, rfl, by rw [i4, f3 h (by simp [hh])]; rfl, (f3.wk (by first | (simp; done) | (intro q hq; simp at hq ⊢; omega))).tr (fx.of4 g4) (by first | (simp; done) | (intro q hq; simp at hq ⊢; omega))⟩)

