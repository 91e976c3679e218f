set_option maxHeartbeats 4000000 in
set_option maxRecDepth 100000 in
theorem ok_X2_makeMac {l : Launch} {a0 : Nat} {D : va_G} {sa : Nat → Nat} {T : Nat → Option hKd} {I : Nat → Nat → Int32} {L : Nat → Nat → Int64} {R : Nat → Nat → Option Nat} {A : Nat → Nat} (xO : isX T R A a0) (hsa : ∀ k, k < 5 → sa k = A (90 + k)) (b nb x nx n u nu : Nat) (hst : stI I) (hTb : T b = some (.inl (.int, nb))) (hnb : nb < 2 ^ 31) (hnb2 : 32 ≤ nb) (hb : b ≠ 115 ∧ b ≠ 116 ∧ b ≠ 117 ∧ b ≠ 118) (hTx : T x = some (.inl (.int, nx))) (hnx : nx < 2 ^ 31) (hxn : n ≤ nx) (hn3 : n ≤ 300) (hx : x ≠ 115 ∧ x ≠ 116 ∧ x ≠ 117) (hTu : T u = some (.inl (.int, nu))) (hnu : nu < 2 ^ 31) (hnu2 : 32 ≤ nu) (hu0 : a0 ≤ A u) (hu : u ≠ 115 ∧ u ≠ 116 ∧ u ≠ 117 ∧ u ≠ 118) : hM l a0 D sa yX2_makeMac cX2_makeMac 5 none { frames := 3, cells := 0, slots := 0, locals := 83 } [.ref (A 114), .ref (A b), .ref (A x), .int (nI n), .ref (A u)] (T, I, L, R, A) (fun r G' => r = none ∧ ∃ I', G' = (T, I', L, R, A) ∧ I' u = (fun j => if j < 32 then hmac (I b) (I x) n j else I u j) ∧ fx [115, 116, 117, 118, u] I I') := by
  refine hM.of (by decide +kernel) (Nat.le_of_ble_eq_true rfl) ?_
  intro z hl h0 hD hS hN C E
  subst hl; subst h0; subst hD; subst hS
  have C : hC z RX2 cX2_makeMac := C
  have hZ := E.2.2.2.1
  show hX z 0 0 (T, I, L, R, A) [(0, .ref (A 114)), (1, .ref (A b)), (2, .ref (A x)), (3, .int (nI n)), (4, .ref (A u))] 0 []
  refine x_aload_n C dX2_makeMac_0 0 rfl rfl ?_
  refine x_aload_n C dX2_makeMac_1 1 rfl rfl ?_
  refine x_bipush (v := nI 54) C dX2_makeMac_2 (by decide +kernel) ?_
  refine x_callV C (ok_X2_beginWith xO hsa b nb 54 (hmC (hmI (I b) 54) (I x) 64) hst hTb hnb hnb2 ⟨hb.1, hb.2.1, hb.2.2.1⟩ (fun i hi => by unfold hmC; rw [if_pos hi])) mv_X2_beginWith ml_X2_36 (xO.1 114 _ rfl).1 rfl rfl rfl (Nat.le_of_ble_eq_true rfl) (hrm (rm := { frames := 0, cells := 0, slots := 0, locals := 0 }) hZ ⟨Nat.le_of_ble_eq_true rfl, Nat.le_of_ble_eq_true rfl⟩) (hcs hZ ⟨Nat.le_of_ble_eq_true rfl, Nat.le_of_ble_eq_true rfl⟩) dX2_makeMac_4 (fun v G' hp => ?_)
  obtain ⟨rfl, J1, rfl, a1, f1⟩ := hp
  have st1 : stI J1 := f1.st (by decide) hst
  show hX z 0 0 (T, J1, L, R, A) [(0, .ref (A 114)), (1, .ref (A b)), (2, .ref (A x)), (3, .int (nI n)), (4, .ref (A u))] 7 []
  refine x_aload_n C dX2_makeMac_7 0 rfl rfl ?_
  refine x_getrN C fl_X2_12 (xO.1 114 _ rfl).1 rfl (xO.2.1 114 0 _ rfl) dX2_makeMac_8 ?_
  refine x_aload_n C dX2_makeMac_11 2 rfl rfl ?_
  refine x_iconst (v := nI 0) C dX2_makeMac_12 (by decide +kernel) ?_
  refine x_iload_n C dX2_makeMac_13 3 rfl rfl ?_
  refine x_callV C (ok_X5_add 115 116 117 (xO.1 115 _ rfl).1 (xO.2.1 115 0 _ rfl) (xO.2.1 115 1 _ rfl) (xO.1 116 _ rfl).1 (xO.1 117 _ rfl).1 (xO.1 115 _ rfl).2 (xO.1 116 _ rfl).2 (xO.1 117 _ rfl).2 (by decide) (by decide) (by decide) hsa (xO.2.2 92 _ rfl) st1.2.1 ⟨by decide, by decide, by decide⟩ (hmC (hmI (I b) 54) (I x) 64) 64 x nx 0 n a1 hTx hnx (Nat.zero_le _) hxn hx (fun i hi => by rw [f1 x (by simp [hx]), Nat.zero_add]; unfold hmC; rw [if_neg (by omega), show 64 + i - 64 = i by omega])) mv_X5_add ml_X2_40 (xO.1 115 _ rfl).1 rfl rfl rfl (Nat.le_of_ble_eq_true rfl) (hrm (rm := { frames := 0, cells := 0, slots := 0, locals := 0 }) hZ ⟨Nat.le_of_ble_eq_true rfl, Nat.le_of_ble_eq_true rfl⟩) (hcs hZ ⟨Nat.le_of_ble_eq_true rfl, Nat.le_of_ble_eq_true rfl⟩) dX2_makeMac_14 (fun v G' hp => ?_)
  obtain ⟨rfl, J2, rfl, a2, g2⟩ := hp
  have f2 : fx [115, 116, 117] I J2 := f1.tr (fx.of3 g2) (by first | (simp; done) | (intro q hq; simp at hq ⊢; omega))
  have st2 : stI J2 := f2.st (by decide) hst
  show hX z 0 0 (T, J2, L, R, A) [(0, .ref (A 114)), (1, .ref (A b)), (2, .ref (A x)), (3, .int (nI n)), (4, .ref (A u))] 17 []
  refine x_aload_n C dX2_makeMac_17 0 rfl rfl ?_
  refine x_getrN C fl_X2_12 (xO.1 114 _ rfl).1 rfl (xO.2.1 114 0 _ rfl) dX2_makeMac_18 ?_
  refine x_aload_n C dX2_makeMac_21 0 rfl rfl ?_
  refine x_getrN C fl_X2_18 (xO.1 114 _ rfl).1 rfl (xO.2.1 114 1 _ rfl) dX2_makeMac_22 ?_
  refine x_callV C (ok_X5_finish 115 116 117 (xO.1 115 _ rfl).1 (xO.2.1 115 0 _ rfl) (xO.2.1 115 1 _ rfl) (xO.1 116 _ rfl).1 (xO.1 117 _ rfl).1 (xO.1 115 _ rfl).2 (xO.1 116 _ rfl).2 (xO.1 117 _ rfl).2 (by decide) (by decide) (by decide) hsa (xO.2.2 92 _ rfl) st2.2.1 ⟨by decide, by decide, by decide⟩ (hmC (hmI (I b) 54) (I x) 64) (64 + n) 118 32 (by rw [Nat.sub_zero] at a2; exact a2) (by omega) (xO.1 118 _ rfl).1 (by decide) (by decide) (xO.1 118 _ rfl).2 ⟨by decide, by decide, by decide⟩) mv_X5_finish ml_X2_44 (xO.1 115 _ rfl).1 rfl rfl rfl (Nat.le_of_ble_eq_true rfl) (hrm (rm := { frames := 0, cells := 0, slots := 0, locals := 0 }) hZ ⟨Nat.le_of_ble_eq_true rfl, Nat.le_of_ble_eq_true rfl⟩) (hcs hZ ⟨Nat.le_of_ble_eq_true rfl, Nat.le_of_ble_eq_true rfl⟩) dX2_makeMac_25 (fun v G' hp => ?_)
  obtain ⟨rfl, J3, rfl, i3, g3⟩ := hp
  have f3 : fx [115, 116, 117, 118] I J3 := (f2.wk (by first | (simp; done) | (intro q hq; simp at hq ⊢; omega))).tr (fx.of4 g3) (by first | (simp; done) | (intro q hq; simp at hq ⊢; omega))
  have st3 : stI J3 := f3.st (by decide) hst
  show hX z 0 0 (T, J3, L, R, A) [(0, .ref (A 114)), (1, .ref (A b)), (2, .ref (A x)), (3, .int (nI n)), (4, .ref (A u))] 28 []
  refine x_aload_n C dX2_makeMac_28 0 rfl rfl ?_
  refine x_aload_n C dX2_makeMac_29 1 rfl rfl ?_
  refine x_bipush (v := nI 92) C dX2_makeMac_30 (by decide +kernel) ?_
  refine x_callV C (ok_X2_beginWith xO hsa b nb 92 (hmC (hmI (I b) 92) (shaH (hmC (hmI (I b) 54) (I x) 64) (64 + n)) 64) st3 hTb hnb hnb2 ⟨hb.1, hb.2.1, hb.2.2.1⟩ (fun i hi => by rw [f3 b (by simp [hb])]; unfold hmC; rw [if_pos hi])) mv_X2_beginWith ml_X2_36 (xO.1 114 _ rfl).1 rfl rfl rfl (Nat.le_of_ble_eq_true rfl) (hrm (rm := { frames := 0, cells := 0, slots := 0, locals := 0 }) hZ ⟨Nat.le_of_ble_eq_true rfl, Nat.le_of_ble_eq_true rfl⟩) (hcs hZ ⟨Nat.le_of_ble_eq_true rfl, Nat.le_of_ble_eq_true rfl⟩) dX2_makeMac_32 (fun v G' hp => ?_)
  obtain ⟨rfl, J4, rfl, a4, g4⟩ := hp
  have f4 : fx [115, 116, 117, 118] I J4 := f3.tr g4 (by first | (simp; done) | (intro q hq; simp at hq ⊢; omega))
  have st4 : stI J4 := f4.st (by decide) hst
  show hX z 0 0 (T, J4, L, R, A) [(0, .ref (A 114)), (1, .ref (A b)), (2, .ref (A x)), (3, .int (nI n)), (4, .ref (A u))] 35 []
  refine x_aload_n C dX2_makeMac_35 0 rfl rfl ?_
  refine x_getrN C fl_X2_12 (xO.1 114 _ rfl).1 rfl (xO.2.1 114 0 _ rfl) dX2_makeMac_36 ?_
  refine x_aload_n C dX2_makeMac_39 0 rfl rfl ?_
  refine x_getrN C fl_X2_18 (xO.1 114 _ rfl).1 rfl (xO.2.1 114 1 _ rfl) dX2_makeMac_40 ?_
  refine x_iconst (v := nI 0) C dX2_makeMac_43 (by decide +kernel) ?_
  refine x_bipush (v := nI 32) C dX2_makeMac_44 (by decide +kernel) ?_
  refine x_callV C (ok_X5_add 115 116 117 (xO.1 115 _ rfl).1 (xO.2.1 115 0 _ rfl) (xO.2.1 115 1 _ rfl) (xO.1 116 _ rfl).1 (xO.1 117 _ rfl).1 (xO.1 115 _ rfl).2 (xO.1 116 _ rfl).2 (xO.1 117 _ rfl).2 (by decide) (by decide) (by decide) hsa (xO.2.2 92 _ rfl) st4.2.1 ⟨by decide, by decide, by decide⟩ (hmC (hmI (I b) 92) (shaH (hmC (hmI (I b) 54) (I x) 64) (64 + n)) 64) 64 118 32 0 32 a4 (xO.1 118 _ rfl).1 (by decide) (by decide) (by decide) ⟨by decide, by decide, by decide⟩ (fun i hi => by rw [g4 118 (by decide), i3, Nat.zero_add]; dsimp only; rw [if_pos (by omega)]; unfold hmC; rw [if_neg (by omega), show 64 + i - 64 = i by omega])) mv_X5_add ml_X2_40 (xO.1 115 _ rfl).1 rfl rfl rfl (Nat.le_of_ble_eq_true rfl) (hrm (rm := { frames := 0, cells := 0, slots := 0, locals := 0 }) hZ ⟨Nat.le_of_ble_eq_true rfl, Nat.le_of_ble_eq_true rfl⟩) (hcs hZ ⟨Nat.le_of_ble_eq_true rfl, Nat.le_of_ble_eq_true rfl⟩) dX2_makeMac_46 (fun v G' hp => ?_)
  obtain ⟨rfl, J5, rfl, a5, g5⟩ := hp
  have f5 : fx [115, 116, 117, 118] I J5 := f4.tr (fx.of3 g5) (by first | (simp; done) | (intro q hq; simp at hq ⊢; omega))
  have st5 : stI J5 := f5.st (by decide) hst
  show hX z 0 0 (T, J5, L, R, A) [(0, .ref (A 114)), (1, .ref (A b)), (2, .ref (A x)), (3, .int (nI n)), (4, .ref (A u))] 49 []
  refine x_aload_n C dX2_makeMac_49 0 rfl rfl ?_
  refine x_getrN C fl_X2_12 (xO.1 114 _ rfl).1 rfl (xO.2.1 114 0 _ rfl) dX2_makeMac_50 ?_
  refine x_aload C dX2_makeMac_53 4 rfl ?_
  refine x_callV C (ok_X5_finish 115 116 117 (xO.1 115 _ rfl).1 (xO.2.1 115 0 _ rfl) (xO.2.1 115 1 _ rfl) (xO.1 116 _ rfl).1 (xO.1 117 _ rfl).1 (xO.1 115 _ rfl).2 (xO.1 116 _ rfl).2 (xO.1 117 _ rfl).2 (by decide) (by decide) (by decide) hsa (xO.2.2 92 _ rfl) st5.2.1 ⟨by decide, by decide, by decide⟩ (hmC (hmI (I b) 92) (shaH (hmC (hmI (I b) 54) (I x) 64) (64 + n)) 64) 96 u nu a5 (by decide) hTu hnu hnu2 hu0 ⟨hu.1, hu.2.1, hu.2.2.1⟩) mv_X5_finish ml_X2_44 (xO.1 115 _ rfl).1 rfl rfl rfl (Nat.le_of_ble_eq_true rfl) (hrm (rm := { frames := 0, cells := 0, slots := 0, locals := 0 }) hZ ⟨Nat.le_of_ble_eq_true rfl, Nat.le_of_ble_eq_true rfl⟩) (hcs hZ ⟨Nat.le_of_ble_eq_true rfl, Nat.le_of_ble_eq_true rfl⟩) dX2_makeMac_55 (fun v G' hp => ?_)
  obtain ⟨rfl, J6, rfl, i6, g6⟩ := hp
  show hX z 0 0 (T, J6, L, R, A) [(0, .ref (A 114)), (1, .ref (A b)), (2, .ref (A x)), (3, .int (nI n)), (4, .ref (A u))] 58 []
  exact x_vret C E (Nat.le_of_ble_eq_true rfl) (Nat.le_of_ble_eq_true rfl) dX2_makeMac_58 (⟨rfl, J6, rfl, by rw [i6, f5 u (by simp [hu])]; rfl, fun q hq => by simp at hq; rw [g6 q hq.1 hq.2.1 hq.2.2.1 hq.2.2.2.2]; exact f5 q (by simp [hq])⟩)

set_option maxHeartbeats 4000000 in
set_option maxRecDepth 100000 in
theorem ok_X2_makeKeys {l : Launch} {a0 : Nat} {D : va_G} {sa : Nat → Nat} {T : Nat → Option hKd} {I : Nat → Nat → Int32} {L : Nat → Nat → Int64} {R : Nat → Nat → Option Nat} {A : Nat → Nat} (xO : isX T R A a0) (hsa : ∀ k, k < 5 → sa k = A (90 + k)) (c nc x nx n o1 n1 o2 n2 : Nat) (hst : stI I) (hTc : T c = some (.inl (.int, nc))) (hnc : nc < 2 ^ 31) (hnc2 : 32 ≤ nc) (hc : c ≠ 115 ∧ c ≠ 116 ∧ c ≠ 117 ∧ c ≠ 118) (hTx : T x = some (.inl (.int, nx))) (hnx : nx < 2 ^ 31) (hxn : n ≤ nx) (hn3 : n ≤ 300) (hx : x ≠ 115 ∧ x ≠ 116 ∧ x ≠ 117) (hT1 : T o1 = some (.inl (.int, n1))) (hn1 : n1 < 2 ^ 31) (hn12 : 32 ≤ n1) (hb1 : a0 ≤ A o1) (ho1 : o1 ≠ 115 ∧ o1 ≠ 116 ∧ o1 ≠ 117 ∧ o1 ≠ 118 ∧ o1 ≠ 119 ∧ o1 ≠ 120) (hT2 : T o2 = some (.inl (.int, n2))) (hn2 : n2 < 2 ^ 31) (hn22 : 32 ≤ n2) (hb2 : a0 ≤ A o2) (ho2 : o2 ≠ 115 ∧ o2 ≠ 116 ∧ o2 ≠ 117 ∧ o2 ≠ 118 ∧ o2 ≠ 119 ∧ o2 ≠ 120) (h12 : o1 ≠ o2) (h90 : ∀ k, k < 5 → 90 + k ≠ o1 ∧ 90 + k ≠ o2) : hM l a0 D sa yX2_makeKeys cX2_makeKeys 6 none { frames := 4, cells := 0, slots := 0, locals := 107 } [.ref (A 114), .ref (A c), .ref (A x), .int (nI n), .ref (A o1), .ref (A o2)] (T, I, L, R, A) (fun r G' => r = none ∧ ∃ I', G' = (T, I', L, R, A) ∧ (∀ i, i < 32 → I' o1 i = key1 (I c) (I x) n i) ∧ (∀ i, i < 32 → I' o2 i = key2 (I c) (I x) n i) ∧ fx [115, 116, 117, 118, 119, 120, o1, o2] I I') := by
  refine hM.of (by decide +kernel) (Nat.le_of_ble_eq_true rfl) ?_
  intro z hl h0 hD hS hN C E
  subst hl; subst h0; subst hD; subst hS
  have C : hC z RX2 cX2_makeKeys := C
  have hZ := E.2.2.2.1
  show hX z 0 0 (T, I, L, R, A) [(0, .ref (A 114)), (1, .ref (A c)), (2, .ref (A x)), (3, .int (nI n)), (4, .ref (A o1)), (5, .ref (A o2))] 0 []
  refine x_aload_n C dX2_makeKeys_0 0 rfl rfl ?_
  refine x_aload_n C dX2_makeKeys_1 1 rfl rfl ?_
  refine x_aload_n C dX2_makeKeys_2 2 rfl rfl ?_
  refine x_iload_n C dX2_makeKeys_3 3 rfl rfl ?_
  refine x_aload_n C dX2_makeKeys_4 0 rfl rfl ?_
  refine x_getrN C fl_X2_22 (xO.1 114 _ rfl).1 rfl (xO.2.1 114 2 _ rfl) dX2_makeKeys_5 ?_
  refine x_callV C (ok_X2_makeMac xO hsa c nc x nx n 119 32 hst hTc hnc hnc2 hc hTx hnx hxn hn3 hx (xO.1 119 _ rfl).1 (by decide) (by decide) (xO.1 119 _ rfl).2 ⟨by decide, by decide, by decide, by decide⟩) mv_X2_makeMac ml_X2_28 (xO.1 114 _ rfl).1 rfl rfl rfl (Nat.le_of_ble_eq_true rfl) (hrm (rm := { frames := 0, cells := 0, slots := 0, locals := 0 }) hZ ⟨Nat.le_of_ble_eq_true rfl, Nat.le_of_ble_eq_true rfl⟩) (hcs hZ ⟨Nat.le_of_ble_eq_true rfl, Nat.le_of_ble_eq_true rfl⟩) dX2_makeKeys_8 (fun v G' hp => ?_)
  obtain ⟨rfl, J1, rfl, i1, f1⟩ := hp
  have k1 : ∀ i, i < 32 → J1 119 i = keyT (I c) (I x) n i := fun i hi => by rw [i1]; dsimp only; rw [if_pos hi]; rfl
  show hX z 0 0 (T, J1, L, R, A) [(0, .ref (A 114)), (1, .ref (A c)), (2, .ref (A x)), (3, .int (nI n)), (4, .ref (A o1)), (5, .ref (A o2))] 11 []
  refine x_aload_n C dX2_makeKeys_11 0 rfl rfl ?_
  refine x_getrN C fl_X2_25 (xO.1 114 _ rfl).1 rfl (xO.2.1 114 3 _ rfl) dX2_makeKeys_12 ?_
  refine x_iconst (v := nI 0) C dX2_makeKeys_15 (by decide +kernel) ?_
  refine x_iconst (v := nI 1) C dX2_makeKeys_16 (by decide +kernel) ?_
  refine x_iastN C (xO.1 120 _ rfl).1 (xO.1 120 _ rfl).2 (by omega) (by omega) dX2_makeKeys_17 (fun I1 eI1 => ?_)
  have g1 : fx [115, 116, 117, 118, 119, 120] I I1 := by rw [eI1]; exact (f1.wk (by first | (simp; done) | (intro q hq; simp at hq ⊢; omega))).up (by simp)
  refine x_aload_n C dX2_makeKeys_18 0 rfl rfl ?_
  refine x_aload_n C dX2_makeKeys_19 0 rfl rfl ?_
  refine x_getrN C fl_X2_22 (xO.1 114 _ rfl).1 rfl (xO.2.1 114 2 _ rfl) dX2_makeKeys_20 ?_
  refine x_aload_n C dX2_makeKeys_23 0 rfl rfl ?_
  refine x_getrN C fl_X2_25 (xO.1 114 _ rfl).1 rfl (xO.2.1 114 3 _ rfl) dX2_makeKeys_24 ?_
  refine x_iconst (v := nI 1) C dX2_makeKeys_27 (by decide +kernel) ?_
  refine x_aload C dX2_makeKeys_28 4 rfl ?_
  refine x_callV C (ok_X2_makeMac xO hsa 119 32 120 33 1 o1 n1 (g1.st (by decide) hst) (xO.1 119 _ rfl).1 (by decide) (by decide) ⟨by decide, by decide, by decide, by decide⟩ (xO.1 120 _ rfl).1 (by decide) (by decide) (by decide) ⟨by decide, by decide, by decide⟩ hT1 hn1 hn12 hb1 ⟨ho1.1, ho1.2.1, ho1.2.2.1, ho1.2.2.2.1⟩) mv_X2_makeMac ml_X2_28 (xO.1 114 _ rfl).1 rfl rfl rfl (Nat.le_of_ble_eq_true rfl) (hrm (rm := { frames := 0, cells := 0, slots := 0, locals := 0 }) hZ ⟨Nat.le_of_ble_eq_true rfl, Nat.le_of_ble_eq_true rfl⟩) (hcs hZ ⟨Nat.le_of_ble_eq_true rfl, Nat.le_of_ble_eq_true rfl⟩) dX2_makeKeys_30 (fun v G' hp => ?_)
  obtain ⟨rfl, J2, rfl, i2, f2⟩ := hp
  have k2 : ∀ i, i < 32 → J2 o1 i = key1 (I c) (I x) n i := fun i hi => by rw [i2]; dsimp only; rw [if_pos hi]; exact congrFun (hmac_congr (fun i hi => by rw [eI1, up_ne _ _ (by decide), k1 i hi]) (fun i hi => by rw [eI1, up_eq, show i = 0 by omega, pk_us])) i
  have k7 : ∀ i, i < 32 → J2 119 i = keyT (I c) (I x) n i := fun i hi => by rw [f2 119 (by simp; exact Ne.symm ho1.2.2.2.2.1), eI1, up_ne _ _ (by decide), k1 i hi]
  have g2 : fx [115, 116, 117, 118, 119, 120, o1] I J2 := (g1.wk (by first | (simp; done) | (intro q hq; simp at hq ⊢; omega))).tr f2 (by first | (simp; done) | (intro q hq; simp at hq ⊢; omega))
  show hX z 0 0 (T, J2, L, R, A) [(0, .ref (A 114)), (1, .ref (A c)), (2, .ref (A x)), (3, .int (nI n)), (4, .ref (A o1)), (5, .ref (A o2))] 33 []
  refine x_aload C dX2_makeKeys_33 4 rfl ?_
  refine x_aload_n C dX2_makeKeys_35 0 rfl rfl ?_
  refine x_getrN C fl_X2_25 (xO.1 114 _ rfl).1 rfl (xO.2.1 114 3 _ rfl) dX2_makeKeys_36 ?_
  refine x_callSN C (ok_X10_copyKey o1 120 n1 33 hT1 (xO.1 120 _ rfl).1 (xO.1 120 _ rfl).2 hn1 (by decide) hn12 (by decide)) ms_X10_copyKey ml_X2_32 rfl rfl (Nat.le_of_ble_eq_true rfl) (hrm (rm := { frames := 0, cells := 0, slots := 0, locals := 0 }) hZ ⟨Nat.le_of_ble_eq_true rfl, Nat.le_of_ble_eq_true rfl⟩) (hcs hZ ⟨Nat.le_of_ble_eq_true rfl, Nat.le_of_ble_eq_true rfl⟩) dX2_makeKeys_39 (fun v G' hp => ?_)
  obtain ⟨rfl, rfl⟩ := hp
  show hX z 0 0 (T, (va_up J2 120 (fun j => if j < 32 then J2 o1 j else J2 120 j)), L, R, A) [(0, .ref (A 114)), (1, .ref (A c)), (2, .ref (A x)), (3, .int (nI n)), (4, .ref (A o1)), (5, .ref (A o2))] 42 []
  refine x_aload_n C dX2_makeKeys_42 0 rfl rfl ?_
  refine x_getrN C fl_X2_25 (xO.1 114 _ rfl).1 rfl (xO.2.1 114 3 _ rfl) dX2_makeKeys_43 ?_
  refine x_bipush (v := nI 32) C dX2_makeKeys_46 (by decide +kernel) ?_
  refine x_iconst (v := nI 2) C dX2_makeKeys_48 (by decide +kernel) ?_
  refine x_iastN C (xO.1 120 _ rfl).1 (xO.1 120 _ rfl).2 (by omega) (by omega) dX2_makeKeys_49 (fun I2 eI2 => ?_)
  have g3 : fx [115, 116, 117, 118, 119, 120, o1] I I2 := by rw [eI2]; exact (g2.up (by simp)).up (by simp)
  refine x_aload_n C dX2_makeKeys_50 0 rfl rfl ?_
  refine x_aload_n C dX2_makeKeys_51 0 rfl rfl ?_
  refine x_getrN C fl_X2_22 (xO.1 114 _ rfl).1 rfl (xO.2.1 114 2 _ rfl) dX2_makeKeys_52 ?_
  refine x_aload_n C dX2_makeKeys_55 0 rfl rfl ?_
  refine x_getrN C fl_X2_25 (xO.1 114 _ rfl).1 rfl (xO.2.1 114 3 _ rfl) dX2_makeKeys_56 ?_
  refine x_bipush (v := nI 33) C dX2_makeKeys_59 (by decide +kernel) ?_
  refine x_aload C dX2_makeKeys_61 5 rfl ?_
  refine x_callV C (ok_X2_makeMac xO hsa 119 32 120 33 33 o2 n2 (g3.st (fun k hk => by have := h90 k hk; simp; omega) hst) (xO.1 119 _ rfl).1 (by decide) (by decide) ⟨by decide, by decide, by decide, by decide⟩ (xO.1 120 _ rfl).1 (by decide) (by decide) (by decide) ⟨by decide, by decide, by decide⟩ hT2 hn2 hn22 hb2 ⟨ho2.1, ho2.2.1, ho2.2.2.1, ho2.2.2.2.1⟩) mv_X2_makeMac ml_X2_28 (xO.1 114 _ rfl).1 rfl rfl rfl (Nat.le_of_ble_eq_true rfl) (hrm (rm := { frames := 0, cells := 0, slots := 0, locals := 0 }) hZ ⟨Nat.le_of_ble_eq_true rfl, Nat.le_of_ble_eq_true rfl⟩) (hcs hZ ⟨Nat.le_of_ble_eq_true rfl, Nat.le_of_ble_eq_true rfl⟩) dX2_makeKeys_63 (fun v G' hp => ?_)
  obtain ⟨rfl, J3, rfl, i3, f3⟩ := hp
  have k3 : ∀ i, i < 32 → J3 o2 i = key2 (I c) (I x) n i := fun i hi => by rw [i3]; dsimp only; rw [if_pos hi]; exact congrFun (hmac_congr (fun i hi => by rw [eI2, up_ne _ _ (by decide), up_ne _ _ (by decide), k7 i hi]) (fun i hi => by rw [eI2, up_eq]; unfold upd; by_cases c32 : i = 32 <;> first | (rw [if_pos c32, if_neg (by omega)]; done) | (rw [if_neg c32, if_pos (by omega), up_eq, if_pos (by omega), k2 i (by omega)]))) i
  show hX z 0 0 (T, J3, L, R, A) [(0, .ref (A 114)), (1, .ref (A c)), (2, .ref (A x)), (3, .int (nI n)), (4, .ref (A o1)), (5, .ref (A o2))] 66 []
  exact x_vret C E (Nat.le_of_ble_eq_true rfl) (Nat.le_of_ble_eq_true rfl) dX2_makeKeys_66 (⟨rfl, J3, rfl, fun i hi => by rw [f3 o1 (by simp [ho1, h12]), eI2, up_ne _ _ ho1.2.2.2.2.2, up_ne _ _ ho1.2.2.2.2.2, k2 i hi], k3, (g3.wk (by first | (simp; done) | (intro q hq; simp at hq ⊢; omega))).tr f3 (by first | (simp; done) | (intro q hq; simp at hq ⊢; omega))⟩)

