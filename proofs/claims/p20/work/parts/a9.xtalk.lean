/-! ===== StepShake: again, write, read ===== -/
theorem stE.b {σ : sgT} {I J : Nat → Nat → Int32} {S ha : Nat} {kn : Nat → Bool} {pub told : Nat → Int32} {wt : Bool} (h : stE σ I (S + 4)) (hp : ∀ j, j < 32 → I (S + 2) j = pub j) (ht : ∀ j, j < 32 → I (S + 3) j = told j) (h1 : ∀ j, j < 32 → J (S + 4 + 1 + 1) j = bgF kn ha (I (S + 2)) (I (S + 3)) 2 j) (h0 : ∀ j, j < 32 → J (S + 4 + 1 + 0) j = nmV j) (h6 : ∀ j, j < 32 → J (S + 4 + 1 + 6) j = I (S + 3) j) (hu : J (S + 4) = upd (upd (upd (upd (upd (I (S + 4)) 9 (bI wt)) 8 (nI 0)) 7 (nI 0)) 10 (nI 0)) 13 (nI 0)) (hS : 300 ≤ S) (f : fx [111, 112, 113, S + 4, S + 4 + 1 + 0, S + 4 + 1 + 1, S + 4 + 1 + 6] I J) : stE (opB kn ha pub told wt σ) J (S + 4) := by
  refine ⟨fun k hk j hj => ?_, fun i g1 g2 => ?_⟩
  · rcases lt7 hk with rfl | rfl | rfl | rfl | rfl | rfl | rfl
    · exact h0 j hj
    · rw [h1 j hj]; exact congrFun (bgF_cg hp ht 2) j
    · rw [f _ (by simp; omega)]; exact h.1 2 (by decide) j hj
    · rw [f _ (by simp; omega)]; exact h.1 3 (by decide) j hj
    · rw [f _ (by simp; omega)]; exact h.1 4 (by decide) j hj
    · rw [f _ (by simp; omega)]; exact h.1 5 (by decide) j hj
    · rw [h6 j hj]; exact ht j hj
  · rw [hu]; exact upd_cg (upd_cg (upd_cg (upd_cg (upd_cg (h.2 i g1 g2)))))
set_option maxHeartbeats 4000000 in
set_option maxRecDepth 100000 in
theorem ok_X10_again {l : Launch} {a0 : Nat} {D : va_G} {sa : Nat → Nat} {T : Nat → Option hKd} {I : Nat → Nat → Int32} {L : Nat → Nat → Int64} {R : Nat → Nat → Option Nat} {A : Nat → Nat} (xO : isX T R A a0) (hsa : ∀ k, k < 5 → sa k = A (90 + k)) (ns : Nat) (hns : I 100 8 = nI ns) (hn4 : ns ≤ 4) (sn : Nat) (hsn : sn < ns) (S P : Nat) (hSd : isSd T R A a0 S P) (ha : Nat) (hha : I S 2 = nI ha) (ha2 : ha < 2) (hS3 : 300 ≤ S) (hP : isPt T R A a0 P) (kn : Nat → Bool) (ms : Nat) (sz : Nat → Nat) (tk : Nat → Nat → Nat) (hs : Bool) (hI : ptI I P kn ms sz tk hs) (hP2 : P + 10 ≤ 300) (hP1 : 200 ≤ P) (hst : stI I) (cp cq cr cs : Nat) (h4 : cv4 R cp cq cr cs) (hRs : R 102 sn = some S) (σ : sgT) (hσ : stE σ I (S + 4)) (hb : bS σ) (nx : Nat) (hnx : σ 7 13 = nI nx) (hn31 : nx < 2 ^ 30) (pub told : Nat → Int32) (hpub : ∀ j, j < 32 → I (S + 2) j = pub j) (htold : ∀ j, j < 32 → I (S + 3) j = told j) (wt : Bool) (hwt : I S 7 = bI wt)  : hM l a0 D sa yX10_again cX10_again 4 (some .int) { frames := 5, cells := 0, slots := 0, locals := 125 } [.ref (A 100), .int (nI sn)] (T, I, L, R, A) (fun r G' => r = some (.int (nI nx)) ∧ ∃ I', G' = (T, I', L, R, A) ∧ stE (opB kn ha pub told wt σ) I' (S + 4) ∧ fx [111, 112, 113, S + 4, S + 4 + 1 + 0, S + 4 + 1 + 1, S + 4 + 1 + 6] I I') := by
  refine hM.of (by decide +kernel) (Nat.le_of_ble_eq_true rfl) ?_
  intro z hl h0 hD hS hN C E
  subst hl; subst h0; subst hD; subst hS
  have C : hC z RX10 cX10_again := C
  have hZ := E.2.2.2.1
  show hX z 0 0 (T, I, L, R, A) [(0, .ref (A 100)), (1, .int (nI sn))] 0 []
  have hms6 := hI.2.2.2.1
  refine x_aload_n C dX10_again_0 0 rfl rfl ?_
  refine x_iload_n C dX10_again_1 1 rfl rfl ?_
  refine x_callV C (ok_X10_sideAt xO hsa ns hns hn4 sn S hsn hRs) mv_X10_sideAt ml_X10_97 (xO.1 100 _ rfl).1 rfl rfl rfl (Nat.le_of_ble_eq_true rfl) (hrm (rm := { frames := 0, cells := 0, slots := 0, locals := 0 }) hZ ⟨Nat.le_of_ble_eq_true rfl, Nat.le_of_ble_eq_true rfl⟩) (hcs hZ ⟨Nat.le_of_ble_eq_true rfl, Nat.le_of_ble_eq_true rfl⟩) dX10_again_2 (fun v G' hp => ?_)
  obtain ⟨rfl, rfl⟩ := hp
  show hX z 0 0 (T, I, L, R, A) [(0, .ref (A 100)), (1, .int (nI sn))] 5 [.ref (A S)]
  refine x_astore_n (lv' := [(2, .ref (A S)), (0, .ref (A 100)), (1, .int (nI sn))]) C dX10_again_5 rfl (Nat.lt_of_lt_of_eq (by decide) hN.symm) rfl ?_
  refine x_aload_n C dX10_again_6 0 rfl rfl ?_
  refine x_ifnonnull (tgt := 13) C dX10_again_7 (by decide) ?_
  refine x_aload_n C dX10_again_13 0 rfl rfl ?_
  refine x_getrN C fl_X10_101 hSd.1.1 rfl hSd.2.1.2.2.2.2 dX10_again_14 ?_
  refine x_getiN C fl_X10_105 hSd.2.2.2.1 rfl dX10_again_17 ?_
  refine x_eqi (y := nI nx) ((hσ.2 13 (by decide) (by decide)).trans hnx) ?_
  refine x_istore_n (lv' := [(3, .int (nI nx)), (2, .ref (A S)), (0, .ref (A 100)), (1, .int (nI sn))]) C dX10_again_20 rfl (Nat.lt_of_lt_of_eq (by decide) hN.symm) rfl ?_
  refine x_aload_n C dX10_again_21 2 rfl rfl ?_
  refine x_getrN C fl_X10_39 (xO.1 100 _ rfl).1 rfl (xO.2.1 100 5 _ rfl) dX10_again_22 ?_
  refine x_aload_n C dX10_again_25 1 rfl rfl ?_
  refine x_callV C (ok_X9_begin xO hsa S P hSd ha hha ha2 hS3 hP kn ms sz tk hs hI hP2 hP1 hst wt hwt) mv_X9_begin ml_X10_93 (xO.1 109 _ rfl).1 rfl rfl rfl (Nat.le_of_ble_eq_true rfl) (hrm (rm := { frames := 0, cells := 0, slots := 0, locals := 0 }) hZ ⟨Nat.le_of_ble_eq_true rfl, Nat.le_of_ble_eq_true rfl⟩) (hcs hZ ⟨Nat.le_of_ble_eq_true rfl, Nat.le_of_ble_eq_true rfl⟩) dX10_again_26 (fun v G' hp => ?_)
  obtain ⟨rfl, J1, rfl, b1, b0, b6, bu, bf⟩ := hp
  show hX z 0 0 (T, J1, L, R, A) [(3, .int (nI nx)), (2, .ref (A S)), (0, .ref (A 100)), (1, .int (nI sn))] 29 []
  refine x_iload_n C dX10_again_29 0 rfl rfl ?_
  exact x_iret C E (Nat.le_of_ble_eq_true rfl) (Nat.le_of_ble_eq_true rfl) dX10_again_30 (⟨rfl, J1, rfl, hσ.b hpub htold b1 b0 b6 bu hS3 bf, bf⟩)

set_option maxHeartbeats 4000000 in
set_option maxRecDepth 100000 in
theorem no_X10_write {l : Launch} {a0 : Nat} {D : va_G} {sa : Nat → Nat} {T : Nat → Option hKd} {I : Nat → Nat → Int32} {L : Nat → Nat → Int64} {R : Nat → Nat → Option Nat} {A : Nat → Nat} (xO : isX T R A a0) (hsa : ∀ k, k < 5 → sa k = A (90 + k)) (ns : Nat) (hns : I 100 8 = nI ns) (hn4 : ns ≤ 4) (sn : Nat) (hsn : sn < ns) (S P : Nat) (hSd : isSd T R A a0 S P) (ha : Nat) (hha : I S 2 = nI ha) (ha2 : ha < 2) (hS3 : 300 ≤ S) (hP : isPt T R A a0 P) (kn : Nat → Bool) (ms : Nat) (sz : Nat → Nat) (tk : Nat → Nat → Nat) (hs : Bool) (hI : ptI I P kn ms sz tk hs) (hP2 : P + 10 ≤ 300) (hP1 : 200 ≤ P) (hst : stI I) (cp cq cr cs : Nat) (h4 : cv4 R cp cq cr cs) (hRs : R 102 sn = some S) (σ : sgT) (hσ : stE σ I (S + 4)) (hb : bS σ) (nx : Nat) (hnx : σ 7 13 = nI nx) (hnm : nx < ms) (hnh : nx % 2 ≠ ha) : hM l a0 D sa yX10_write cX10_write 3 (some .int) { frames := 1, cells := 0, slots := 0, locals := 21 } [.ref (A 100), .int (nI sn)] (T, I, L, R, A) (fun r G' => r = some (.int (-3)) ∧ G' = (T, I, L, R, A)) := by
  refine hM.of (by decide +kernel) (Nat.le_of_ble_eq_true rfl) ?_
  intro z hl h0 hD hS hN C E
  subst hl; subst h0; subst hD; subst hS
  have C : hC z RX10 cX10_write := C
  have hZ := E.2.2.2.1
  show hX z 0 0 (T, I, L, R, A) [(0, .ref (A 100)), (1, .int (nI sn))] 0 []
  have hms6 := hI.2.2.2.1
  refine x_aload_n C dX10_write_0 0 rfl rfl ?_
  refine x_iload_n C dX10_write_1 1 rfl rfl ?_
  refine x_callV C (ok_X10_sideAt xO hsa ns hns hn4 sn S hsn hRs) mv_X10_sideAt ml_X10_97 (xO.1 100 _ rfl).1 rfl rfl rfl (Nat.le_of_ble_eq_true rfl) (hrm (rm := { frames := 0, cells := 0, slots := 0, locals := 0 }) hZ ⟨Nat.le_of_ble_eq_true rfl, Nat.le_of_ble_eq_true rfl⟩) (hcs hZ ⟨Nat.le_of_ble_eq_true rfl, Nat.le_of_ble_eq_true rfl⟩) dX10_write_2 (fun v G' hp => ?_)
  obtain ⟨rfl, rfl⟩ := hp
  show hX z 0 0 (T, I, L, R, A) [(0, .ref (A 100)), (1, .int (nI sn))] 5 [.ref (A S)]
  refine x_astore_n (lv' := [(2, .ref (A S)), (0, .ref (A 100)), (1, .int (nI sn))]) C dX10_write_5 rfl (Nat.lt_of_lt_of_eq (by decide) hN.symm) rfl ?_
  refine x_aload_n C dX10_write_6 0 rfl rfl ?_
  refine x_ifnonnull (tgt := 13) C dX10_write_7 (by decide) ?_
  refine x_aload_n C dX10_write_13 0 rfl rfl ?_
  refine x_callV C (ok_X6_isDone S P hSd hP.1.1 ms nx ha hI.1.2.2.1 ((hσ.2 13 (by decide) (by decide)).trans hnx) hha ⟨by omega, by omega, ha2⟩) mv_X6_isDone ml_X10_116 hSd.1.1 rfl rfl rfl (Nat.le_of_ble_eq_true rfl) (hrm (rm := { frames := 0, cells := 0, slots := 0, locals := 0 }) hZ ⟨Nat.le_of_ble_eq_true rfl, Nat.le_of_ble_eq_true rfl⟩) (hcs hZ ⟨Nat.le_of_ble_eq_true rfl, Nat.le_of_ble_eq_true rfl⟩) dX10_write_14 (fun v G' hp => ?_)
  obtain ⟨rfl, rfl⟩ := hp
  show hX z 0 0 (T, I, L, R, A) [(2, .ref (A S)), (0, .ref (A 100)), (1, .int (nI sn))] 17 [.int (bI (decide (ms ≤ nx)))]
  refine x_eqi (y := nI 0) (by rw [decide_eq_false (by omega)]; rfl) ?_
  refine x_if_eqN (tgt := 42) C (by omega) dX10_write_17 (by decide) (fun c17 => ?_) (fun c17 => absurd c17 (by omega))
  refine x_aload_n C dX10_write_42 0 rfl rfl ?_
  refine x_callV C (ok_X6_isNext S P hSd hP.1.1 ms nx ha hI.1.2.2.1 ((hσ.2 13 (by decide) (by decide)).trans hnx) hha ⟨by omega, by omega, ha2⟩) mv_X6_isNext ml_X10_124 hSd.1.1 rfl rfl rfl (Nat.le_of_ble_eq_true rfl) (hrm (rm := { frames := 0, cells := 0, slots := 0, locals := 0 }) hZ ⟨Nat.le_of_ble_eq_true rfl, Nat.le_of_ble_eq_true rfl⟩) (hcs hZ ⟨Nat.le_of_ble_eq_true rfl, Nat.le_of_ble_eq_true rfl⟩) dX10_write_43 (fun v G' hp => ?_)
  obtain ⟨rfl, rfl⟩ := hp
  show hX z 0 0 (T, I, L, R, A) [(2, .ref (A S)), (0, .ref (A 100)), (1, .int (nI sn))] 46 [.int (bI (decide (nx % 2 = ha)))]
  refine x_eqi (y := nI 0) (by rw [decide_eq_false hnh]; rfl) ?_
  refine x_if_eqN (tgt := 68) C (by omega) dX10_write_46 (by decide) (fun c46 => ?_) (fun c46 => absurd c46 (by omega))
  refine x_bipush (v := (-3)) C dX10_write_68 (by decide +kernel) ?_
  exact x_iret C E (Nat.le_of_ble_eq_true rfl) (Nat.le_of_ble_eq_true rfl) dX10_write_70 (⟨rfl, rfl⟩)

set_option maxHeartbeats 4000000 in
set_option maxRecDepth 100000 in
theorem dn_X10_write {l : Launch} {a0 : Nat} {D : va_G} {sa : Nat → Nat} {T : Nat → Option hKd} {I : Nat → Nat → Int32} {L : Nat → Nat → Int64} {R : Nat → Nat → Option Nat} {A : Nat → Nat} (xO : isX T R A a0) (hsa : ∀ k, k < 5 → sa k = A (90 + k)) (ns : Nat) (hns : I 100 8 = nI ns) (hn4 : ns ≤ 4) (sn : Nat) (hsn : sn < ns) (S P : Nat) (hSd : isSd T R A a0 S P) (ha : Nat) (hha : I S 2 = nI ha) (ha2 : ha < 2) (hS3 : 300 ≤ S) (hP : isPt T R A a0 P) (kn : Nat → Bool) (ms : Nat) (sz : Nat → Nat) (tk : Nat → Nat → Nat) (hs : Bool) (hI : ptI I P kn ms sz tk hs) (hP2 : P + 10 ≤ 300) (hP1 : 200 ≤ P) (hst : stI I) (cp cq cr cs : Nat) (h4 : cv4 R cp cq cr cs) (hRs : R 102 sn = some S) (σ : sgT) (hσ : stE σ I (S + 4)) (hb : bS σ) (nx : Nat) (hnx : σ 7 13 = nI nx) (hdn : ms ≤ nx) (hn31 : nx < 2 ^ 30) (tn : Nat) (htn : I 103 1 = nI tn) (ht64 : tn ≤ 64) (tp : Nat → Int32) (htp : ∀ j, j < tn → I 104 j = tp j) (htb : ∀ j, j < tn → byt (tp j) < 256)  : hM l a0 D sa yX10_write cX10_write 3 (some .int) { frames := 6, cells := 0, slots := 0, locals := 148 } [.ref (A 100), .int (nI sn)] (T, I, L, R, A) (fun r G' => r = some (.int (nI (tn + 16))) ∧ ∃ I' L', G' = (T, I', L', R, A) ∧ stE (sFl σ 10 (σ 7 10 + 1)) I' (S + 4) ∧ I' 105 1 = nI (tn + 16) ∧ (∀ j, j < tn + 16 → I' 106 j = dnF σ tp tn j) ∧ I' 103 1 = nI 0 ∧ fx [103, 105, 106, 133, 134, 135, 136, 141, 142, S + 4] I I') := by
  refine hM.of (by decide +kernel) (Nat.le_of_ble_eq_true rfl) ?_
  intro z hl h0 hD hS hN C E
  subst hl; subst h0; subst hD; subst hS
  have C : hC z RX10 cX10_write := C
  have hZ := E.2.2.2.1
  show hX z 0 0 (T, I, L, R, A) [(0, .ref (A 100)), (1, .int (nI sn))] 0 []
  have hms6 := hI.2.2.2.1
  refine x_aload_n C dX10_write_0 0 rfl rfl ?_
  refine x_iload_n C dX10_write_1 1 rfl rfl ?_
  refine x_callV C (ok_X10_sideAt xO hsa ns hns hn4 sn S hsn hRs) mv_X10_sideAt ml_X10_97 (xO.1 100 _ rfl).1 rfl rfl rfl (Nat.le_of_ble_eq_true rfl) (hrm (rm := { frames := 0, cells := 0, slots := 0, locals := 0 }) hZ ⟨Nat.le_of_ble_eq_true rfl, Nat.le_of_ble_eq_true rfl⟩) (hcs hZ ⟨Nat.le_of_ble_eq_true rfl, Nat.le_of_ble_eq_true rfl⟩) dX10_write_2 (fun v G' hp => ?_)
  obtain ⟨rfl, rfl⟩ := hp
  show hX z 0 0 (T, I, L, R, A) [(0, .ref (A 100)), (1, .int (nI sn))] 5 [.ref (A S)]
  refine x_astore_n (lv' := [(2, .ref (A S)), (0, .ref (A 100)), (1, .int (nI sn))]) C dX10_write_5 rfl (Nat.lt_of_lt_of_eq (by decide) hN.symm) rfl ?_
  refine x_aload_n C dX10_write_6 0 rfl rfl ?_
  refine x_ifnonnull (tgt := 13) C dX10_write_7 (by decide) ?_
  refine x_aload_n C dX10_write_13 0 rfl rfl ?_
  refine x_callV C (ok_X6_isDone S P hSd hP.1.1 ms nx ha hI.1.2.2.1 ((hσ.2 13 (by decide) (by decide)).trans hnx) hha ⟨by omega, by omega, ha2⟩) mv_X6_isDone ml_X10_116 hSd.1.1 rfl rfl rfl (Nat.le_of_ble_eq_true rfl) (hrm (rm := { frames := 0, cells := 0, slots := 0, locals := 0 }) hZ ⟨Nat.le_of_ble_eq_true rfl, Nat.le_of_ble_eq_true rfl⟩) (hcs hZ ⟨Nat.le_of_ble_eq_true rfl, Nat.le_of_ble_eq_true rfl⟩) dX10_write_14 (fun v G' hp => ?_)
  obtain ⟨rfl, rfl⟩ := hp
  show hX z 0 0 (T, I, L, R, A) [(2, .ref (A S)), (0, .ref (A 100)), (1, .int (nI sn))] 17 [.int (bI (decide (ms ≤ nx)))]
  refine x_eqi (y := nI 1) (by rw [decide_eq_true hdn]; rfl) ?_
  refine x_if_eqN (tgt := 42) C (by omega) dX10_write_17 (by decide) (fun c17 => absurd c17 (by omega)) (fun c17 => ?_)
  refine x_aload_n C dX10_write_20 1 rfl rfl ?_
  refine x_getrN C fl_X10_39 (xO.1 100 _ rfl).1 rfl (xO.2.1 100 5 _ rfl) dX10_write_21 ?_
  refine x_aload_n C dX10_write_24 0 rfl rfl ?_
  refine x_getrN C fl_X10_101 hSd.1.1 rfl hSd.2.1.2.2.2.2 dX10_write_25 ?_
  refine x_aload_n C dX10_write_28 1 rfl rfl ?_
  refine x_getrN C fl_X10_26 (xO.1 100 _ rfl).1 rfl (xO.2.1 100 2 _ rfl) dX10_write_29 ?_
  refine x_aload_n C dX10_write_32 1 rfl rfl ?_
  refine x_getrN C fl_X10_30 (xO.1 100 _ rfl).1 rfl (xO.2.1 100 3 _ rfl) dX10_write_33 ?_
  refine x_callV C (ok_X9_sendDone xO hsa S P hSd ha hha ha2 hS3 σ hσ tn htn ht64 tp htp htb) mv_X9_sendDone ml_X10_120 (xO.1 109 _ rfl).1 rfl rfl rfl (Nat.le_of_ble_eq_true rfl) (hrm (rm := { frames := 0, cells := 0, slots := 0, locals := 0 }) hZ ⟨Nat.le_of_ble_eq_true rfl, Nat.le_of_ble_eq_true rfl⟩) (hcs hZ ⟨Nat.le_of_ble_eq_true rfl, Nat.le_of_ble_eq_true rfl⟩) dX10_write_36 (fun v G' hp => ?_)
  obtain ⟨rfl, J1, L1, rfl, q1, q2, q3, q4⟩ := hp
  show hX z 0 0 (T, J1, L1, R, A) [(2, .ref (A S)), (0, .ref (A 100)), (1, .int (nI sn))] 39 []
  refine x_goto (tgt := 71) C dX10_write_39 (by decide) ?_
  refine x_aload_n C dX10_write_71 1 rfl rfl ?_
  refine x_getrN C fl_X10_26 (xO.1 100 _ rfl).1 rfl (xO.2.1 100 2 _ rfl) dX10_write_72 ?_
  refine x_iconst (v := nI 0) C dX10_write_75 (by decide +kernel) ?_
  refine x_putiN C fl_X10_110 (xO.1 103 _ rfl).1 (xO.1 103 _ rfl).2 rfl dX10_write_76 (fun I1 eI1 => ?_)
  refine x_aload_n C dX10_write_79 1 rfl rfl ?_
  refine x_getrN C fl_X10_30 (xO.1 100 _ rfl).1 rfl (xO.2.1 100 3 _ rfl) dX10_write_80 ?_
  refine x_getiN C fl_X10_110 (xO.1 105 _ rfl).1 rfl dX10_write_83 ?_
  refine x_eqi (y := nI (tn + 16)) (by rw [eI1, va_up_other _ _ (by decide)]; exact q2) ?_
  exact x_iret C E (Nat.le_of_ble_eq_true rfl) (Nat.le_of_ble_eq_true rfl) dX10_write_86 (by
      have f1 : fx [103] J1 I1 := by rw [eI1]; exact fx.rf.up (by simp)
      refine ⟨rfl, I1, L1, rfl, q1.fr f1 (by intro k hk; simp; omega), ?_, fun j hj => ?_, ?_, ?_⟩
      · rw [f1 105 (by decide)]; exact q2
      · rw [f1 106 (by decide)]; exact q3 j hj
      · rw [eI1, va_up_same]; simp [upd]
      · exact (q4.wk (by simp)).tr f1 (by simp))

set_option maxHeartbeats 4000000 in
set_option maxRecDepth 100000 in
theorem ok_X10_write {l : Launch} {a0 : Nat} {D : va_G} {sa : Nat → Nat} {T : Nat → Option hKd} {I : Nat → Nat → Int32} {L : Nat → Nat → Int64} {R : Nat → Nat → Option Nat} {A : Nat → Nat} (xO : isX T R A a0) (hsa : ∀ k, k < 5 → sa k = A (90 + k)) (ns : Nat) (hns : I 100 8 = nI ns) (hn4 : ns ≤ 4) (sn : Nat) (hsn : sn < ns) (S P : Nat) (hSd : isSd T R A a0 S P) (ha : Nat) (hha : I S 2 = nI ha) (ha2 : ha < 2) (hS3 : 300 ≤ S) (hP : isPt T R A a0 P) (kn : Nat → Bool) (ms : Nat) (sz : Nat → Nat) (tk : Nat → Nat → Nat) (hs : Bool) (hI : ptI I P kn ms sz tk hs) (hP2 : P + 10 ≤ 300) (hP1 : 200 ≤ P) (hst : stI I) (cp cq cr cs : Nat) (h4 : cv4 R cp cq cr cs) (hRs : R 102 sn = some S) (σ : sgT) (hσ : stE σ I (S + 4)) (hb : bS σ) (nx : Nat) (hnx : σ 7 13 = nI nx) (hnm : nx < ms) (sd : Int32) (hsd : I S 3 = sd) (sec pub : Nat → Int32) (hsec : ∀ j, j < 32 → I (S + 1) j = sec j) (hpub : ∀ j, j < 32 → I (S + 2) j = pub j) (hpb : ∀ j, j < 32 → byt (pub j) < 256) (tn : Nat) (htn : I 103 1 = nI tn) (ht64 : tn ≤ 64) (tp : Nat → Int32) (htp : ∀ j, j < tn → I 104 j = tp j) (htb : ∀ j, j < tn → byt (tp j) < 256) (hln : lnK (tk nx) (sz nx) ≤ 80) (hnh : nx % 2 = ha) : hM l a0 D sa yX10_write cX10_write 3 (some .int) { frames := 7, cells := 0, slots := 0, locals := 240 } [.ref (A 100), .int (nI sn)] (T, I, L, R, A) (fun r G' => r = some (.int (nI (sdM sd sec pub ha ms nx (tk nx) (sz nx) tp tn σ).2.2)) ∧ ∃ I' L' R', G' = (T, I', L', R', A) ∧ stE (sdM sd sec pub ha ms nx (tk nx) (sz nx) tp tn σ).1 I' (S + 4) ∧ I' 105 1 = nI (sdM sd sec pub ha ms nx (tk nx) (sz nx) tp tn σ).2.2 ∧ (∀ j, j < (sdM sd sec pub ha ms nx (tk nx) (sz nx) tp tn σ).2.2 → I' 106 j = (sdM sd sec pub ha ms nx (tk nx) (sz nx) tp tn σ).2.1 j) ∧ I' 103 1 = nI 0 ∧ fx [103, 105, 106, 111, 112, 113, 115, 116, 117, 118, 119, 120, 122, 133, 134, 135, 136, 141, 142, 152, S + 4, S + 4 + 1 + 0, S + 4 + 1 + 1, S + 4 + 1 + 2, S + 4 + 1 + 3, S + 4 + 1 + 4] I I' ∧ fr121 R R' ∧ ∃ p q r s, cv4 R' p q r s) := by
  refine hM.of (by decide +kernel) (Nat.le_of_ble_eq_true rfl) ?_
  intro z hl h0 hD hS hN C E
  subst hl; subst h0; subst hD; subst hS
  have C : hC z RX10 cX10_write := C
  have hZ := E.2.2.2.1
  show hX z 0 0 (T, I, L, R, A) [(0, .ref (A 100)), (1, .int (nI sn))] 0 []
  have hms6 := hI.2.2.2.1
  refine x_aload_n C dX10_write_0 0 rfl rfl ?_
  refine x_iload_n C dX10_write_1 1 rfl rfl ?_
  refine x_callV C (ok_X10_sideAt xO hsa ns hns hn4 sn S hsn hRs) mv_X10_sideAt ml_X10_97 (xO.1 100 _ rfl).1 rfl rfl rfl (Nat.le_of_ble_eq_true rfl) (hrm (rm := { frames := 0, cells := 0, slots := 0, locals := 0 }) hZ ⟨Nat.le_of_ble_eq_true rfl, Nat.le_of_ble_eq_true rfl⟩) (hcs hZ ⟨Nat.le_of_ble_eq_true rfl, Nat.le_of_ble_eq_true rfl⟩) dX10_write_2 (fun v G' hp => ?_)
  obtain ⟨rfl, rfl⟩ := hp
  show hX z 0 0 (T, I, L, R, A) [(0, .ref (A 100)), (1, .int (nI sn))] 5 [.ref (A S)]
  refine x_astore_n (lv' := [(2, .ref (A S)), (0, .ref (A 100)), (1, .int (nI sn))]) C dX10_write_5 rfl (Nat.lt_of_lt_of_eq (by decide) hN.symm) rfl ?_
  refine x_aload_n C dX10_write_6 0 rfl rfl ?_
  refine x_ifnonnull (tgt := 13) C dX10_write_7 (by decide) ?_
  refine x_aload_n C dX10_write_13 0 rfl rfl ?_
  refine x_callV C (ok_X6_isDone S P hSd hP.1.1 ms nx ha hI.1.2.2.1 ((hσ.2 13 (by decide) (by decide)).trans hnx) hha ⟨by omega, by omega, ha2⟩) mv_X6_isDone ml_X10_116 hSd.1.1 rfl rfl rfl (Nat.le_of_ble_eq_true rfl) (hrm (rm := { frames := 0, cells := 0, slots := 0, locals := 0 }) hZ ⟨Nat.le_of_ble_eq_true rfl, Nat.le_of_ble_eq_true rfl⟩) (hcs hZ ⟨Nat.le_of_ble_eq_true rfl, Nat.le_of_ble_eq_true rfl⟩) dX10_write_14 (fun v G' hp => ?_)
  obtain ⟨rfl, rfl⟩ := hp
  show hX z 0 0 (T, I, L, R, A) [(2, .ref (A S)), (0, .ref (A 100)), (1, .int (nI sn))] 17 [.int (bI (decide (ms ≤ nx)))]
  refine x_eqi (y := nI 0) (by rw [decide_eq_false (by omega)]; rfl) ?_
  refine x_if_eqN (tgt := 42) C (by omega) dX10_write_17 (by decide) (fun c17 => ?_) (fun c17 => absurd c17 (by omega))
  refine x_aload_n C dX10_write_42 0 rfl rfl ?_
  refine x_callV C (ok_X6_isNext S P hSd hP.1.1 ms nx ha hI.1.2.2.1 ((hσ.2 13 (by decide) (by decide)).trans hnx) hha ⟨by omega, by omega, ha2⟩) mv_X6_isNext ml_X10_124 hSd.1.1 rfl rfl rfl (Nat.le_of_ble_eq_true rfl) (hrm (rm := { frames := 0, cells := 0, slots := 0, locals := 0 }) hZ ⟨Nat.le_of_ble_eq_true rfl, Nat.le_of_ble_eq_true rfl⟩) (hcs hZ ⟨Nat.le_of_ble_eq_true rfl, Nat.le_of_ble_eq_true rfl⟩) dX10_write_43 (fun v G' hp => ?_)
  obtain ⟨rfl, rfl⟩ := hp
  show hX z 0 0 (T, I, L, R, A) [(2, .ref (A S)), (0, .ref (A 100)), (1, .int (nI sn))] 46 [.int (bI (decide (nx % 2 = ha)))]
  refine x_eqi (y := nI 1) (by rw [decide_eq_true hnh]; rfl) ?_
  refine x_if_eqN (tgt := 68) C (by omega) dX10_write_46 (by decide) (fun c46 => absurd c46 (by omega)) (fun c46 => ?_)
  refine x_aload_n C dX10_write_49 1 rfl rfl ?_
  refine x_getrN C fl_X10_39 (xO.1 100 _ rfl).1 rfl (xO.2.1 100 5 _ rfl) dX10_write_50 ?_
  refine x_aload_n C dX10_write_53 0 rfl rfl ?_
  refine x_aload_n C dX10_write_54 1 rfl rfl ?_
  refine x_getrN C fl_X10_26 (xO.1 100 _ rfl).1 rfl (xO.2.1 100 2 _ rfl) dX10_write_55 ?_
  refine x_aload_n C dX10_write_58 1 rfl rfl ?_
  refine x_getrN C fl_X10_30 (xO.1 100 _ rfl).1 rfl (xO.2.1 100 3 _ rfl) dX10_write_59 ?_
  refine x_callV C (ok_X9_send xO hsa S P hSd ha hha ha2 hS3 hP kn ms sz tk hs hI hP2 hP1 hst cp cq cr cs h4 σ hσ hb nx hnx hnm sd hsd sec pub hsec hpub hpb tn htn ht64 tp htp htb hln) mv_X9_send ml_X10_127 (xO.1 109 _ rfl).1 rfl rfl rfl (Nat.le_of_ble_eq_true rfl) (hrm (rm := { frames := 0, cells := 0, slots := 0, locals := 0 }) hZ ⟨Nat.le_of_ble_eq_true rfl, Nat.le_of_ble_eq_true rfl⟩) (hcs hZ ⟨Nat.le_of_ble_eq_true rfl, Nat.le_of_ble_eq_true rfl⟩) dX10_write_62 (fun v G' hp => ?_)
  obtain ⟨rfl, J1, L1, R1, rfl, q1, q2, q3, q4, q5, q6⟩ := hp
  have xO := isX.r121 xO q5
  show hX z 0 0 (T, J1, L1, R1, A) [(2, .ref (A S)), (0, .ref (A 100)), (1, .int (nI sn))] 65 []
  refine x_goto (tgt := 71) C dX10_write_65 (by decide) ?_
  refine x_aload_n C dX10_write_71 1 rfl rfl ?_
  refine x_getrN C fl_X10_26 (xO.1 100 _ rfl).1 rfl (xO.2.1 100 2 _ rfl) dX10_write_72 ?_
  refine x_iconst (v := nI 0) C dX10_write_75 (by decide +kernel) ?_
  refine x_putiN C fl_X10_110 (xO.1 103 _ rfl).1 (xO.1 103 _ rfl).2 rfl dX10_write_76 (fun I1 eI1 => ?_)
  refine x_aload_n C dX10_write_79 1 rfl rfl ?_
  refine x_getrN C fl_X10_30 (xO.1 100 _ rfl).1 rfl (xO.2.1 100 3 _ rfl) dX10_write_80 ?_
  refine x_getiN C fl_X10_110 (xO.1 105 _ rfl).1 rfl dX10_write_83 ?_
  refine x_eqi (y := nI ((sdM sd sec pub ha ms nx (tk nx) (sz nx) tp tn σ).2.2)) (by rw [eI1, va_up_other _ _ (by decide)]; exact q2) ?_
  exact x_iret C E (Nat.le_of_ble_eq_true rfl) (Nat.le_of_ble_eq_true rfl) dX10_write_86 (by
      have f1 : fx [103] J1 I1 := by rw [eI1]; exact fx.rf.up (by simp)
      refine ⟨rfl, I1, L1, R1, rfl, q1.fr f1 (by intro k hk; simp; omega), ?_, fun j hj => ?_, ?_, ?_, q5, q6⟩
      · rw [f1 105 (by decide)]; exact q2
      · rw [f1 106 (by decide)]; exact q3 j hj
      · rw [eI1, va_up_same]; simp [upd]
      · exact (q4.wk (by simp)).tr f1 (by simp))

set_option maxHeartbeats 4000000 in
set_option maxRecDepth 100000 in
theorem no_X10_read {l : Launch} {a0 : Nat} {D : va_G} {sa : Nat → Nat} {T : Nat → Option hKd} {I : Nat → Nat → Int32} {L : Nat → Nat → Int64} {R : Nat → Nat → Option Nat} {A : Nat → Nat} (xO : isX T R A a0) (hsa : ∀ k, k < 5 → sa k = A (90 + k)) (ns : Nat) (hns : I 100 8 = nI ns) (hn4 : ns ≤ 4) (sn : Nat) (hsn : sn < ns) (S P : Nat) (hSd : isSd T R A a0 S P) (ha : Nat) (hha : I S 2 = nI ha) (ha2 : ha < 2) (hS3 : 300 ≤ S) (hP : isPt T R A a0 P) (kn : Nat → Bool) (ms : Nat) (sz : Nat → Nat) (tk : Nat → Nat → Nat) (hs : Bool) (hI : ptI I P kn ms sz tk hs) (hP2 : P + 10 ≤ 300) (hP1 : 200 ≤ P) (hst : stI I) (cp cq cr cs : Nat) (h4 : cv4 R cp cq cr cs) (hRs : R 102 sn = some S) (σ : sgT) (hσ : stE σ I (S + 4)) (hb : bS σ) (nx : Nat) (hnx : σ 7 13 = nI nx) (hnm : nx < ms) (hnh : nx % 2 = ha) : hM l a0 D sa yX10_read cX10_read 4 (some .int) { frames := 1, cells := 0, slots := 0, locals := 21 } [.ref (A 100), .int (nI sn)] (T, I, L, R, A) (fun r G' => r = some (.int (-3)) ∧ G' = (T, I, L, R, A)) := by
  refine hM.of (by decide +kernel) (Nat.le_of_ble_eq_true rfl) ?_
  intro z hl h0 hD hS hN C E
  subst hl; subst h0; subst hD; subst hS
  have C : hC z RX10 cX10_read := C
  have hZ := E.2.2.2.1
  show hX z 0 0 (T, I, L, R, A) [(0, .ref (A 100)), (1, .int (nI sn))] 0 []
  have hms6 := hI.2.2.2.1
  refine x_aload_n C dX10_read_0 0 rfl rfl ?_
  refine x_iload_n C dX10_read_1 1 rfl rfl ?_
  refine x_callV C (ok_X10_sideAt xO hsa ns hns hn4 sn S hsn hRs) mv_X10_sideAt ml_X10_97 (xO.1 100 _ rfl).1 rfl rfl rfl (Nat.le_of_ble_eq_true rfl) (hrm (rm := { frames := 0, cells := 0, slots := 0, locals := 0 }) hZ ⟨Nat.le_of_ble_eq_true rfl, Nat.le_of_ble_eq_true rfl⟩) (hcs hZ ⟨Nat.le_of_ble_eq_true rfl, Nat.le_of_ble_eq_true rfl⟩) dX10_read_2 (fun v G' hp => ?_)
  obtain ⟨rfl, rfl⟩ := hp
  show hX z 0 0 (T, I, L, R, A) [(0, .ref (A 100)), (1, .int (nI sn))] 5 [.ref (A S)]
  refine x_astore_n (lv' := [(2, .ref (A S)), (0, .ref (A 100)), (1, .int (nI sn))]) C dX10_read_5 rfl (Nat.lt_of_lt_of_eq (by decide) hN.symm) rfl ?_
  refine x_aload_n C dX10_read_6 0 rfl rfl ?_
  refine x_ifnonnull (tgt := 13) C dX10_read_7 (by decide) ?_
  refine x_aload_n C dX10_read_13 0 rfl rfl ?_
  refine x_callV C (ok_X6_isDone S P hSd hP.1.1 ms nx ha hI.1.2.2.1 ((hσ.2 13 (by decide) (by decide)).trans hnx) hha ⟨by omega, by omega, ha2⟩) mv_X6_isDone ml_X10_116 hSd.1.1 rfl rfl rfl (Nat.le_of_ble_eq_true rfl) (hrm (rm := { frames := 0, cells := 0, slots := 0, locals := 0 }) hZ ⟨Nat.le_of_ble_eq_true rfl, Nat.le_of_ble_eq_true rfl⟩) (hcs hZ ⟨Nat.le_of_ble_eq_true rfl, Nat.le_of_ble_eq_true rfl⟩) dX10_read_14 (fun v G' hp => ?_)
  obtain ⟨rfl, rfl⟩ := hp
  show hX z 0 0 (T, I, L, R, A) [(2, .ref (A S)), (0, .ref (A 100)), (1, .int (nI sn))] 17 [.int (bI (decide (ms ≤ nx)))]
  refine x_eqi (y := nI 0) (by rw [decide_eq_false (by omega)]; rfl) ?_
  refine x_if_neN (tgt := 30) C (by omega) dX10_read_17 (by decide) (fun c17 => absurd c17 (by omega)) (fun c17 => ?_)
  refine x_aload_n C dX10_read_20 0 rfl rfl ?_
  refine x_callV C (ok_X6_isNext S P hSd hP.1.1 ms nx ha hI.1.2.2.1 ((hσ.2 13 (by decide) (by decide)).trans hnx) hha ⟨by omega, by omega, ha2⟩) mv_X6_isNext ml_X10_124 hSd.1.1 rfl rfl rfl (Nat.le_of_ble_eq_true rfl) (hrm (rm := { frames := 0, cells := 0, slots := 0, locals := 0 }) hZ ⟨Nat.le_of_ble_eq_true rfl, Nat.le_of_ble_eq_true rfl⟩) (hcs hZ ⟨Nat.le_of_ble_eq_true rfl, Nat.le_of_ble_eq_true rfl⟩) dX10_read_21 (fun v G' hp => ?_)
  obtain ⟨rfl, rfl⟩ := hp
  show hX z 0 0 (T, I, L, R, A) [(2, .ref (A S)), (0, .ref (A 100)), (1, .int (nI sn))] 24 [.int (bI (decide (nx % 2 = ha)))]
  refine x_eqi (y := nI 1) (by rw [decide_eq_true hnh]; rfl) ?_
  refine x_if_eqN (tgt := 30) C (by omega) dX10_read_24 (by decide) (fun c24 => absurd c24 (by omega)) (fun c24 => ?_)
  refine x_bipush (v := (-3)) C dX10_read_27 (by decide +kernel) ?_
  exact x_iret C E (Nat.le_of_ble_eq_true rfl) (Nat.le_of_ble_eq_true rfl) dX10_read_29 (⟨rfl, rfl⟩)

theorem ls_lt {p : Bool × Nat} (h : p.2 ≤ 300) : lsO p < 2 ^ 31 := by unfold lsO; split <;> omega
theorem lsT_bd (p : Bool × Nat) (t : Nat) : (lsT p t).2 ≤ p.2 + 48 := by
  unfold lsT
  split
  · show p.2 + 32 ≤ _; omega
  · split
    · show p.2 + (if p.1 then 48 else 32) ≤ _; split <;> omega
    · show p.2 ≤ _; omega
theorem lsK_bd (hk : Bool) (tk : Nat → Nat) : ∀ n, (lsK hk tk n).2 ≤ 48 * n
  | 0 => Nat.le_refl _
  | n + 1 => by have h := lsT_bd (lsK hk tk n) (tk n); have := lsK_bd hk tk n; show (lsT (lsK hk tk n) (tk n)).2 ≤ _; omega
theorem szN_5 {ms nx : Nat} {sz : Nat → Nat} (h : sz nx ≤ 5) : szN ms sz nx ≤ 5 := by unfold szN; split <;> omega
theorem szN_d {ms nx : Nat} {sz : Nat → Nat} (h : ms ≤ nx) : szN ms sz nx = 0 := if_neg (by omega)
theorem szN_n {ms nx : Nat} {sz : Nat → Nat} (h : nx < ms) : szN ms sz nx = sz nx := if_pos h
set_option maxHeartbeats 4000000 in
set_option maxRecDepth 100000 in
theorem sh_X10_read {l : Launch} {a0 : Nat} {D : va_G} {sa : Nat → Nat} {T : Nat → Option hKd} {I : Nat → Nat → Int32} {L : Nat → Nat → Int64} {R : Nat → Nat → Option Nat} {A : Nat → Nat} (xO : isX T R A a0) (hsa : ∀ k, k < 5 → sa k = A (90 + k)) (ns : Nat) (hns : I 100 8 = nI ns) (hn4 : ns ≤ 4) (sn : Nat) (hsn : sn < ns) (S P : Nat) (hSd : isSd T R A a0 S P) (ha : Nat) (hha : I S 2 = nI ha) (ha2 : ha < 2) (hS3 : 300 ≤ S) (hP : isPt T R A a0 P) (kn : Nat → Bool) (ms : Nat) (sz : Nat → Nat) (tk : Nat → Nat → Nat) (hs : Bool) (hI : ptI I P kn ms sz tk hs) (hP2 : P + 10 ≤ 300) (hP1 : 200 ≤ P) (hst : stI I) (cp cq cr cs : Nat) (h4 : cv4 R cp cq cr cs) (hRs : R 102 sn = some S) (σ : sgT) (hσ : stE σ I (S + 4)) (hb : bS σ) (nx : Nat) (hnx : σ 7 13 = nI nx) (hn31 : nx < 2 ^ 30) (ln : Nat) (hln : I 105 1 = nI ln) (hl160 : ln ≤ 160) (lt : Nat → Int32) (hlt : ∀ j, j < ln → I 106 j = lt j) (hlb : ∀ j, j < ln → byt (lt j) < 256) (hsh : ln < lsO (lsK (hkS σ) (tk nx) (szN ms sz nx))) (hnt : ms ≤ nx ∨ nx % 2 ≠ ha) : hM l a0 D sa yX10_read cX10_read 4 (some .int) { frames := 3, cells := 0, slots := 0, locals := 69 } [.ref (A 100), .int (nI sn)] (T, I, L, R, A) (fun r G' => r = some (.int (-5)) ∧ G' = (T, I, L, R, A)) := by
  refine hM.of (by decide +kernel) (Nat.le_of_ble_eq_true rfl) ?_
  intro z hl h0 hD hS hN C E
  subst hl; subst h0; subst hD; subst hS
  have C : hC z RX10 cX10_read := C
  have hZ := E.2.2.2.1
  show hX z 0 0 (T, I, L, R, A) [(0, .ref (A 100)), (1, .int (nI sn))] 0 []
  have hms6 := hI.2.2.2.1
  have hz5 := szN_5 (ms := ms) (hI.2.2.2.2.1 nx)
  have hlk := lsK_bd (hkS σ) (tk nx) (szN ms sz nx)
  have hl31 := ls_lt (p := lsK (hkS σ) (tk nx) (szN ms sz nx)) (by omega)
  refine x_aload_n C dX10_read_0 0 rfl rfl ?_
  refine x_iload_n C dX10_read_1 1 rfl rfl ?_
  refine x_callV C (ok_X10_sideAt xO hsa ns hns hn4 sn S hsn hRs) mv_X10_sideAt ml_X10_97 (xO.1 100 _ rfl).1 rfl rfl rfl (Nat.le_of_ble_eq_true rfl) (hrm (rm := { frames := 0, cells := 0, slots := 0, locals := 0 }) hZ ⟨Nat.le_of_ble_eq_true rfl, Nat.le_of_ble_eq_true rfl⟩) (hcs hZ ⟨Nat.le_of_ble_eq_true rfl, Nat.le_of_ble_eq_true rfl⟩) dX10_read_2 (fun v G' hp => ?_)
  obtain ⟨rfl, rfl⟩ := hp
  show hX z 0 0 (T, I, L, R, A) [(0, .ref (A 100)), (1, .int (nI sn))] 5 [.ref (A S)]
  refine x_astore_n (lv' := [(2, .ref (A S)), (0, .ref (A 100)), (1, .int (nI sn))]) C dX10_read_5 rfl (Nat.lt_of_lt_of_eq (by decide) hN.symm) rfl ?_
  refine x_aload_n C dX10_read_6 0 rfl rfl ?_
  refine x_ifnonnull (tgt := 13) C dX10_read_7 (by decide) ?_
  refine x_aload_n C dX10_read_13 0 rfl rfl ?_
  refine x_callV C (ok_X6_isDone S P hSd hP.1.1 ms nx ha hI.1.2.2.1 ((hσ.2 13 (by decide) (by decide)).trans hnx) hha ⟨by omega, by omega, ha2⟩) mv_X6_isDone ml_X10_116 hSd.1.1 rfl rfl rfl (Nat.le_of_ble_eq_true rfl) (hrm (rm := { frames := 0, cells := 0, slots := 0, locals := 0 }) hZ ⟨Nat.le_of_ble_eq_true rfl, Nat.le_of_ble_eq_true rfl⟩) (hcs hZ ⟨Nat.le_of_ble_eq_true rfl, Nat.le_of_ble_eq_true rfl⟩) dX10_read_14 (fun v G' hp => ?_)
  obtain ⟨rfl, rfl⟩ := hp
  show hX z 0 0 (T, I, L, R, A) [(2, .ref (A S)), (0, .ref (A 100)), (1, .int (nI sn))] 17 [.int (bI (decide (ms ≤ nx)))]
  refine x_if_ne (tgt := 30) C dX10_read_17 (by decide) (fun c17 => ?_) (fun c17 => ?_)
  · refine x_aload_n C dX10_read_30 1 rfl rfl ?_
    refine x_getrN C fl_X10_30 (xO.1 100 _ rfl).1 rfl (xO.2.1 100 3 _ rfl) dX10_read_31 ?_
    refine x_getiN C fl_X10_110 (xO.1 105 _ rfl).1 rfl dX10_read_34 ?_
    refine x_eqi (y := nI ln) hln ?_
    refine x_aload_n C dX10_read_37 0 rfl rfl ?_
    refine x_callV C (ok_X6_leastLetter S P hSd ha hha ha2 hS3 hP kn ms sz tk hs hI σ hσ hb nx hnx (by omega)) mv_X6_leastLetter ml_X10_131 hSd.1.1 rfl rfl rfl (Nat.le_of_ble_eq_true rfl) (hrm (rm := { frames := 0, cells := 0, slots := 0, locals := 0 }) hZ ⟨Nat.le_of_ble_eq_true rfl, Nat.le_of_ble_eq_true rfl⟩) (hcs hZ ⟨Nat.le_of_ble_eq_true rfl, Nat.le_of_ble_eq_true rfl⟩) dX10_read_38 (fun v G' hp => ?_)
    obtain ⟨rfl, rfl⟩ := hp
    show hX z 0 0 (T, I, L, R, A) [(2, .ref (A S)), (0, .ref (A 100)), (1, .int (nI sn))] 41 [.int (nI (lsO (lsK (hkS σ) (tk nx) (szN ms sz nx)))), .int (nI ln)]
    refine x_icmp_geN (tgt := 47) C (by omega) (by omega) dX10_read_41 (by decide) (fun c41 => absurd c41 (by omega)) (fun c41 => ?_)
    refine x_bipush (v := (-5)) C dX10_read_44 (by decide +kernel) ?_
    exact x_iret C E (Nat.le_of_ble_eq_true rfl) (Nat.le_of_ble_eq_true rfl) dX10_read_46 (⟨rfl, rfl⟩)
  · refine x_aload_n C dX10_read_20 0 rfl rfl ?_
    refine x_callV C (ok_X6_isNext S P hSd hP.1.1 ms nx ha hI.1.2.2.1 ((hσ.2 13 (by decide) (by decide)).trans hnx) hha ⟨by omega, by omega, ha2⟩) mv_X6_isNext ml_X10_124 hSd.1.1 rfl rfl rfl (Nat.le_of_ble_eq_true rfl) (hrm (rm := { frames := 0, cells := 0, slots := 0, locals := 0 }) hZ ⟨Nat.le_of_ble_eq_true rfl, Nat.le_of_ble_eq_true rfl⟩) (hcs hZ ⟨Nat.le_of_ble_eq_true rfl, Nat.le_of_ble_eq_true rfl⟩) dX10_read_21 (fun v G' hp => ?_)
    obtain ⟨rfl, rfl⟩ := hp
    show hX z 0 0 (T, I, L, R, A) [(2, .ref (A S)), (0, .ref (A 100)), (1, .int (nI sn))] 24 [.int (bI (decide (nx % 2 = ha)))]
    refine x_if_eq (tgt := 30) C dX10_read_24 (by decide) (fun c24 => ?_) (fun c24 => ?_)
    · refine x_aload_n C dX10_read_30 1 rfl rfl ?_
      refine x_getrN C fl_X10_30 (xO.1 100 _ rfl).1 rfl (xO.2.1 100 3 _ rfl) dX10_read_31 ?_
      refine x_getiN C fl_X10_110 (xO.1 105 _ rfl).1 rfl dX10_read_34 ?_
      refine x_eqi (y := nI ln) hln ?_
      refine x_aload_n C dX10_read_37 0 rfl rfl ?_
      refine x_callV C (ok_X6_leastLetter S P hSd ha hha ha2 hS3 hP kn ms sz tk hs hI σ hσ hb nx hnx (by omega)) mv_X6_leastLetter ml_X10_131 hSd.1.1 rfl rfl rfl (Nat.le_of_ble_eq_true rfl) (hrm (rm := { frames := 0, cells := 0, slots := 0, locals := 0 }) hZ ⟨Nat.le_of_ble_eq_true rfl, Nat.le_of_ble_eq_true rfl⟩) (hcs hZ ⟨Nat.le_of_ble_eq_true rfl, Nat.le_of_ble_eq_true rfl⟩) dX10_read_38 (fun v G' hp => ?_)
      obtain ⟨rfl, rfl⟩ := hp
      show hX z 0 0 (T, I, L, R, A) [(2, .ref (A S)), (0, .ref (A 100)), (1, .int (nI sn))] 41 [.int (nI (lsO (lsK (hkS σ) (tk nx) (szN ms sz nx)))), .int (nI ln)]
      refine x_icmp_geN (tgt := 47) C (by omega) (by omega) dX10_read_41 (by decide) (fun c41 => absurd c41 (by omega)) (fun c41 => ?_)
      refine x_bipush (v := (-5)) C dX10_read_44 (by decide +kernel) ?_
      exact x_iret C E (Nat.le_of_ble_eq_true rfl) (Nat.le_of_ble_eq_true rfl) dX10_read_46 (⟨rfl, rfl⟩)
    · exact False.elim (by rcases hnt with h | h; (· have c := bI_F c17; rw [decide_eq_true h] at c; cases c); (· have c := bI_T c24; exact h (of_decide_eq_true c)))

set_option maxHeartbeats 4000000 in
set_option maxRecDepth 100000 in
theorem dn_X10_read {l : Launch} {a0 : Nat} {D : va_G} {sa : Nat → Nat} {T : Nat → Option hKd} {I : Nat → Nat → Int32} {L : Nat → Nat → Int64} {R : Nat → Nat → Option Nat} {A : Nat → Nat} (xO : isX T R A a0) (hsa : ∀ k, k < 5 → sa k = A (90 + k)) (ns : Nat) (hns : I 100 8 = nI ns) (hn4 : ns ≤ 4) (sn : Nat) (hsn : sn < ns) (S P : Nat) (hSd : isSd T R A a0 S P) (ha : Nat) (hha : I S 2 = nI ha) (ha2 : ha < 2) (hS3 : 300 ≤ S) (hP : isPt T R A a0 P) (kn : Nat → Bool) (ms : Nat) (sz : Nat → Nat) (tk : Nat → Nat → Nat) (hs : Bool) (hI : ptI I P kn ms sz tk hs) (hP2 : P + 10 ≤ 300) (hP1 : 200 ≤ P) (hst : stI I) (cp cq cr cs : Nat) (h4 : cv4 R cp cq cr cs) (hRs : R 102 sn = some S) (σ : sgT) (hσ : stE σ I (S + 4)) (hb : bS σ) (nx : Nat) (hnx : σ 7 13 = nI nx) (hdn : ms ≤ nx) (hn31 : nx < 2 ^ 30) (ln : Nat) (hln : I 105 1 = nI ln) (hl160 : ln ≤ 160) (lt : Nat → Int32) (hlt : ∀ j, j < ln → I 106 j = lt j) (hlb : ∀ j, j < ln → byt (lt j) < 256) (hhk : hkS σ = true) (h16 : 16 ≤ ln) : hM l a0 D sa yX10_read cX10_read 4 (some .int) { frames := 6, cells := 0, slots := 0, locals := 153 } [.ref (A 100), .int (nI sn)] (T, I, L, R, A) (fun r G' => ∃ I' L', G' = (T, I', L', R, A) ∧ ((r = some (.int (-6)) ∧ dnO σ lt ln = false ∧ fx [133, 134, 135, 136, 141, 142] I I') ∨ (r = some (.int (nI (ln - 16))) ∧ dnO σ lt ln = true ∧ stE (sFl σ 11 (σ 7 11 + 1)) I' (S + 4) ∧ I' 107 1 = nI (ln - 16) ∧ (∀ j, j < ln - 16 → I' 108 j = dnG σ lt j) ∧ fx [107, 108, 133, 134, 135, 136, 141, 142, S + 4] I I'))) := by
  refine hM.of (by decide +kernel) (Nat.le_of_ble_eq_true rfl) ?_
  intro z hl h0 hD hS hN C E
  subst hl; subst h0; subst hD; subst hS
  have C : hC z RX10 cX10_read := C
  have hZ := E.2.2.2.1
  show hX z 0 0 (T, I, L, R, A) [(0, .ref (A 100)), (1, .int (nI sn))] 0 []
  have hms6 := hI.2.2.2.1
  have hz5 := szN_5 (ms := ms) (hI.2.2.2.2.1 nx)
  have hlk := lsK_bd (hkS σ) (tk nx) (szN ms sz nx)
  have hl31 := ls_lt (p := lsK (hkS σ) (tk nx) (szN ms sz nx)) (by omega)
  have hls : lsO (lsK (hkS σ) (tk nx) (szN ms sz nx)) = 16 := by rw [szN_d hdn]; show lsO (hkS σ, 0) = 16; rw [hhk]; rfl
  refine x_aload_n C dX10_read_0 0 rfl rfl ?_
  refine x_iload_n C dX10_read_1 1 rfl rfl ?_
  refine x_callV C (ok_X10_sideAt xO hsa ns hns hn4 sn S hsn hRs) mv_X10_sideAt ml_X10_97 (xO.1 100 _ rfl).1 rfl rfl rfl (Nat.le_of_ble_eq_true rfl) (hrm (rm := { frames := 0, cells := 0, slots := 0, locals := 0 }) hZ ⟨Nat.le_of_ble_eq_true rfl, Nat.le_of_ble_eq_true rfl⟩) (hcs hZ ⟨Nat.le_of_ble_eq_true rfl, Nat.le_of_ble_eq_true rfl⟩) dX10_read_2 (fun v G' hp => ?_)
  obtain ⟨rfl, rfl⟩ := hp
  show hX z 0 0 (T, I, L, R, A) [(0, .ref (A 100)), (1, .int (nI sn))] 5 [.ref (A S)]
  refine x_astore_n (lv' := [(2, .ref (A S)), (0, .ref (A 100)), (1, .int (nI sn))]) C dX10_read_5 rfl (Nat.lt_of_lt_of_eq (by decide) hN.symm) rfl ?_
  refine x_aload_n C dX10_read_6 0 rfl rfl ?_
  refine x_ifnonnull (tgt := 13) C dX10_read_7 (by decide) ?_
  refine x_aload_n C dX10_read_13 0 rfl rfl ?_
  refine x_callV C (ok_X6_isDone S P hSd hP.1.1 ms nx ha hI.1.2.2.1 ((hσ.2 13 (by decide) (by decide)).trans hnx) hha ⟨by omega, by omega, ha2⟩) mv_X6_isDone ml_X10_116 hSd.1.1 rfl rfl rfl (Nat.le_of_ble_eq_true rfl) (hrm (rm := { frames := 0, cells := 0, slots := 0, locals := 0 }) hZ ⟨Nat.le_of_ble_eq_true rfl, Nat.le_of_ble_eq_true rfl⟩) (hcs hZ ⟨Nat.le_of_ble_eq_true rfl, Nat.le_of_ble_eq_true rfl⟩) dX10_read_14 (fun v G' hp => ?_)
  obtain ⟨rfl, rfl⟩ := hp
  show hX z 0 0 (T, I, L, R, A) [(2, .ref (A S)), (0, .ref (A 100)), (1, .int (nI sn))] 17 [.int (bI (decide (ms ≤ nx)))]
  refine x_eqi (y := nI 1) (by rw [decide_eq_true hdn]; rfl) ?_
  refine x_if_neN (tgt := 30) C (by omega) dX10_read_17 (by decide) (fun c17 => ?_) (fun c17 => absurd c17 (by omega))
  refine x_aload_n C dX10_read_30 1 rfl rfl ?_
  refine x_getrN C fl_X10_30 (xO.1 100 _ rfl).1 rfl (xO.2.1 100 3 _ rfl) dX10_read_31 ?_
  refine x_getiN C fl_X10_110 (xO.1 105 _ rfl).1 rfl dX10_read_34 ?_
  refine x_eqi (y := nI ln) hln ?_
  refine x_aload_n C dX10_read_37 0 rfl rfl ?_
  refine x_callV C (ok_X6_leastLetter S P hSd ha hha ha2 hS3 hP kn ms sz tk hs hI σ hσ hb nx hnx (by omega)) mv_X6_leastLetter ml_X10_131 hSd.1.1 rfl rfl rfl (Nat.le_of_ble_eq_true rfl) (hrm (rm := { frames := 0, cells := 0, slots := 0, locals := 0 }) hZ ⟨Nat.le_of_ble_eq_true rfl, Nat.le_of_ble_eq_true rfl⟩) (hcs hZ ⟨Nat.le_of_ble_eq_true rfl, Nat.le_of_ble_eq_true rfl⟩) dX10_read_38 (fun v G' hp => ?_)
  obtain ⟨rfl, rfl⟩ := hp
  show hX z 0 0 (T, I, L, R, A) [(2, .ref (A S)), (0, .ref (A 100)), (1, .int (nI sn))] 41 [.int (nI (lsO (lsK (hkS σ) (tk nx) (szN ms sz nx)))), .int (nI ln)]
  refine x_icmp_geN (tgt := 47) C (by omega) (by omega) dX10_read_41 (by decide) (fun c41 => ?_) (fun c41 => absurd c41 (by omega))
  refine x_aload_n C dX10_read_47 0 rfl rfl ?_
  refine x_callV C (ok_X6_isDone S P hSd hP.1.1 ms nx ha hI.1.2.2.1 ((hσ.2 13 (by decide) (by decide)).trans hnx) hha ⟨by omega, by omega, ha2⟩) mv_X6_isDone ml_X10_116 hSd.1.1 rfl rfl rfl (Nat.le_of_ble_eq_true rfl) (hrm (rm := { frames := 0, cells := 0, slots := 0, locals := 0 }) hZ ⟨Nat.le_of_ble_eq_true rfl, Nat.le_of_ble_eq_true rfl⟩) (hcs hZ ⟨Nat.le_of_ble_eq_true rfl, Nat.le_of_ble_eq_true rfl⟩) dX10_read_48 (fun v G' hp => ?_)
  obtain ⟨rfl, rfl⟩ := hp
  show hX z 0 0 (T, I, L, R, A) [(2, .ref (A S)), (0, .ref (A 100)), (1, .int (nI sn))] 51 [.int (bI (decide (ms ≤ nx)))]
  refine x_eqi (y := nI 1) (by rw [decide_eq_true hdn]; rfl) ?_
  refine x_if_eqN (tgt := 76) C (by omega) dX10_read_51 (by decide) (fun c51 => absurd c51 (by omega)) (fun c51 => ?_)
  refine x_aload_n C dX10_read_54 1 rfl rfl ?_
  refine x_getrN C fl_X10_39 (xO.1 100 _ rfl).1 rfl (xO.2.1 100 5 _ rfl) dX10_read_55 ?_
  refine x_aload_n C dX10_read_58 0 rfl rfl ?_
  refine x_getrN C fl_X10_101 hSd.1.1 rfl hSd.2.1.2.2.2.2 dX10_read_59 ?_
  refine x_aload_n C dX10_read_62 1 rfl rfl ?_
  refine x_getrN C fl_X10_30 (xO.1 100 _ rfl).1 rfl (xO.2.1 100 3 _ rfl) dX10_read_63 ?_
  refine x_aload_n C dX10_read_66 1 rfl rfl ?_
  refine x_getrN C fl_X10_33 (xO.1 100 _ rfl).1 rfl (xO.2.1 100 4 _ rfl) dX10_read_67 ?_
  refine x_callV C (ok_X9_takeDone xO hsa S P hSd ha hha ha2 hS3 σ hσ ln hln hl160 lt hlt hlb h16) mv_X9_takeDone ml_X10_134 (xO.1 109 _ rfl).1 rfl rfl rfl (Nat.le_of_ble_eq_true rfl) (hrm (rm := { frames := 0, cells := 0, slots := 0, locals := 0 }) hZ ⟨Nat.le_of_ble_eq_true rfl, Nat.le_of_ble_eq_true rfl⟩) (hcs hZ ⟨Nat.le_of_ble_eq_true rfl, Nat.le_of_ble_eq_true rfl⟩) dX10_read_70 (fun v G' hp => ?_)
  obtain ⟨J1, L1, rfl, hq⟩ := hp
  rcases hq with ⟨rfl, g1, g2⟩ | ⟨rfl, g1, g2, g3, g4, g5⟩
  · show hX z 0 0 (T, J1, L1, R, A) [(2, .ref (A S)), (0, .ref (A 100)), (1, .int (nI sn))] 73 [.int (nI 0)]
    refine x_goto (tgt := 92) C dX10_read_73 (by decide) ?_
    refine x_istore_n (lv' := [(3, .int (nI 0)), (2, .ref (A S)), (0, .ref (A 100)), (1, .int (nI sn))]) C dX10_read_92 rfl (Nat.lt_of_lt_of_eq (by decide) hN.symm) rfl ?_
    refine x_iload_n C dX10_read_93 0 rfl rfl ?_
    refine x_if_eqN (tgt := 107) C (by omega) dX10_read_94 (by decide) (fun c94 => ?_) (fun c94 => absurd c94 (by omega))
    refine x_bipush (v := (-6)) C dX10_read_107 (by decide +kernel) ?_
    exact x_iret C E (Nat.le_of_ble_eq_true rfl) (Nat.le_of_ble_eq_true rfl) dX10_read_109 (⟨J1, L1, rfl, Or.inl ⟨rfl, g1, g2⟩⟩)
  · show hX z 0 0 (T, J1, L1, R, A) [(2, .ref (A S)), (0, .ref (A 100)), (1, .int (nI sn))] 73 [.int (nI 1)]
    refine x_goto (tgt := 92) C dX10_read_73 (by decide) ?_
    refine x_istore_n (lv' := [(3, .int (nI 1)), (2, .ref (A S)), (0, .ref (A 100)), (1, .int (nI sn))]) C dX10_read_92 rfl (Nat.lt_of_lt_of_eq (by decide) hN.symm) rfl ?_
    refine x_iload_n C dX10_read_93 0 rfl rfl ?_
    refine x_if_eqN (tgt := 107) C (by omega) dX10_read_94 (by decide) (fun c94 => absurd c94 (by omega)) (fun c94 => ?_)
    refine x_aload_n C dX10_read_97 2 rfl rfl ?_
    refine x_getrN C fl_X10_33 (xO.1 100 _ rfl).1 rfl (xO.2.1 100 4 _ rfl) dX10_read_98 ?_
    refine x_getiN C fl_X10_110 (xO.1 107 _ rfl).1 rfl dX10_read_101 ?_
    refine x_eqi (y := nI (ln - 16)) g3 ?_
    refine x_goto (tgt := 109) C dX10_read_104 (by decide) ?_
    exact x_iret C E (Nat.le_of_ble_eq_true rfl) (Nat.le_of_ble_eq_true rfl) dX10_read_109 (⟨J1, L1, rfl, Or.inr ⟨rfl, g1, g2, g3, g4, g5⟩⟩)

set_option maxHeartbeats 4000000 in
set_option maxRecDepth 100000 in
theorem ok_X10_read {l : Launch} {a0 : Nat} {D : va_G} {sa : Nat → Nat} {T : Nat → Option hKd} {I : Nat → Nat → Int32} {L : Nat → Nat → Int64} {R : Nat → Nat → Option Nat} {A : Nat → Nat} (xO : isX T R A a0) (hsa : ∀ k, k < 5 → sa k = A (90 + k)) (ns : Nat) (hns : I 100 8 = nI ns) (hn4 : ns ≤ 4) (sn : Nat) (hsn : sn < ns) (S P : Nat) (hSd : isSd T R A a0 S P) (ha : Nat) (hha : I S 2 = nI ha) (ha2 : ha < 2) (hS3 : 300 ≤ S) (hP : isPt T R A a0 P) (kn : Nat → Bool) (ms : Nat) (sz : Nat → Nat) (tk : Nat → Nat → Nat) (hs : Bool) (hI : ptI I P kn ms sz tk hs) (hP2 : P + 10 ≤ 300) (hP1 : 200 ≤ P) (hst : stI I) (cp cq cr cs : Nat) (h4 : cv4 R cp cq cr cs) (hRs : R 102 sn = some S) (σ : sgT) (hσ : stE σ I (S + 4)) (hb : bS σ) (nx : Nat) (hnx : σ 7 13 = nI nx) (hnm : nx < ms) (sec : Nat → Int32) (hsec : ∀ j, j < 32 → I (S + 1) j = sec j) (ln : Nat) (hln : I 105 1 = nI ln) (hl160 : ln ≤ 160) (lt : Nat → Int32) (hlt : ∀ j, j < ln → I 106 j = lt j) (hlb : ∀ j, j < ln → byt (lt j) < 256) (hls : lsO (lsK (hkS σ) (tk nx) (sz nx)) ≤ ln) (hnh : nx % 2 ≠ ha) : hM l a0 D sa yX10_read cX10_read 4 (some .int) { frames := 7, cells := 0, slots := 0, locals := 241 } [.ref (A 100), .int (nI sn)] (T, I, L, R, A) (fun r G' => ∃ I' L' R', G' = (T, I', L', R', A) ∧ (fr121 R R' ∧ ∃ p q r s, cv4 R' p q r s) ∧ ((r = some (.int (-6)) ∧ rdM sec ha ms nx (tk nx) (sz nx) lt ln σ = none ∧ fx [111, 112, 113, 115, 116, 117, 118, 119, 120, 122, 133, 134, 135, 136, 141, 142, 143, 144, 145, 146, 147, 148, 149, 150, 152, 153, 154] I I') ∨ (∃ M, r = some (.int (nI M.2.2)) ∧ rdM sec ha ms nx (tk nx) (sz nx) lt ln σ = some M ∧ stE M.1 I' (S + 4) ∧ I' 107 1 = nI M.2.2 ∧ (∀ j, j < M.2.2 → I' 108 j = M.2.1 j) ∧ fx [107, 108, 111, 112, 113, 115, 116, 117, 118, 119, 120, 122, 133, 134, 135, 136, 141, 142, 143, 144, 145, 146, 147, 148, 149, 150, 152, 153, 154, S + 4, S + 4 + 1 + 0, S + 4 + 1 + 1, S + 4 + 1 + 2, S + 4 + 1 + 3, S + 4 + 1 + 4, S + 4 + 1 + 5, S + 4 + 1 + 6] I I'))) := by
  refine hM.of (by decide +kernel) (Nat.le_of_ble_eq_true rfl) ?_
  intro z hl h0 hD hS hN C E
  subst hl; subst h0; subst hD; subst hS
  have C : hC z RX10 cX10_read := C
  have hZ := E.2.2.2.1
  show hX z 0 0 (T, I, L, R, A) [(0, .ref (A 100)), (1, .int (nI sn))] 0 []
  have hms6 := hI.2.2.2.1
  have hz5 := szN_5 (ms := ms) (hI.2.2.2.2.1 nx)
  have hlk := lsK_bd (hkS σ) (tk nx) (szN ms sz nx)
  have hl31 := ls_lt (p := lsK (hkS σ) (tk nx) (szN ms sz nx)) (by omega)
  have hls2 : lsO (lsK (hkS σ) (tk nx) (szN ms sz nx)) ≤ ln := by rw [szN_n hnm]; exact hls
  refine x_aload_n C dX10_read_0 0 rfl rfl ?_
  refine x_iload_n C dX10_read_1 1 rfl rfl ?_
  refine x_callV C (ok_X10_sideAt xO hsa ns hns hn4 sn S hsn hRs) mv_X10_sideAt ml_X10_97 (xO.1 100 _ rfl).1 rfl rfl rfl (Nat.le_of_ble_eq_true rfl) (hrm (rm := { frames := 0, cells := 0, slots := 0, locals := 0 }) hZ ⟨Nat.le_of_ble_eq_true rfl, Nat.le_of_ble_eq_true rfl⟩) (hcs hZ ⟨Nat.le_of_ble_eq_true rfl, Nat.le_of_ble_eq_true rfl⟩) dX10_read_2 (fun v G' hp => ?_)
  obtain ⟨rfl, rfl⟩ := hp
  show hX z 0 0 (T, I, L, R, A) [(0, .ref (A 100)), (1, .int (nI sn))] 5 [.ref (A S)]
  refine x_astore_n (lv' := [(2, .ref (A S)), (0, .ref (A 100)), (1, .int (nI sn))]) C dX10_read_5 rfl (Nat.lt_of_lt_of_eq (by decide) hN.symm) rfl ?_
  refine x_aload_n C dX10_read_6 0 rfl rfl ?_
  refine x_ifnonnull (tgt := 13) C dX10_read_7 (by decide) ?_
  refine x_aload_n C dX10_read_13 0 rfl rfl ?_
  refine x_callV C (ok_X6_isDone S P hSd hP.1.1 ms nx ha hI.1.2.2.1 ((hσ.2 13 (by decide) (by decide)).trans hnx) hha ⟨by omega, by omega, ha2⟩) mv_X6_isDone ml_X10_116 hSd.1.1 rfl rfl rfl (Nat.le_of_ble_eq_true rfl) (hrm (rm := { frames := 0, cells := 0, slots := 0, locals := 0 }) hZ ⟨Nat.le_of_ble_eq_true rfl, Nat.le_of_ble_eq_true rfl⟩) (hcs hZ ⟨Nat.le_of_ble_eq_true rfl, Nat.le_of_ble_eq_true rfl⟩) dX10_read_14 (fun v G' hp => ?_)
  obtain ⟨rfl, rfl⟩ := hp
  show hX z 0 0 (T, I, L, R, A) [(2, .ref (A S)), (0, .ref (A 100)), (1, .int (nI sn))] 17 [.int (bI (decide (ms ≤ nx)))]
  refine x_eqi (y := nI 0) (by rw [decide_eq_false (by omega)]; rfl) ?_
  refine x_if_neN (tgt := 30) C (by omega) dX10_read_17 (by decide) (fun c17 => absurd c17 (by omega)) (fun c17 => ?_)
  refine x_aload_n C dX10_read_20 0 rfl rfl ?_
  refine x_callV C (ok_X6_isNext S P hSd hP.1.1 ms nx ha hI.1.2.2.1 ((hσ.2 13 (by decide) (by decide)).trans hnx) hha ⟨by omega, by omega, ha2⟩) mv_X6_isNext ml_X10_124 hSd.1.1 rfl rfl rfl (Nat.le_of_ble_eq_true rfl) (hrm (rm := { frames := 0, cells := 0, slots := 0, locals := 0 }) hZ ⟨Nat.le_of_ble_eq_true rfl, Nat.le_of_ble_eq_true rfl⟩) (hcs hZ ⟨Nat.le_of_ble_eq_true rfl, Nat.le_of_ble_eq_true rfl⟩) dX10_read_21 (fun v G' hp => ?_)
  obtain ⟨rfl, rfl⟩ := hp
  show hX z 0 0 (T, I, L, R, A) [(2, .ref (A S)), (0, .ref (A 100)), (1, .int (nI sn))] 24 [.int (bI (decide (nx % 2 = ha)))]
  refine x_eqi (y := nI 0) (by rw [decide_eq_false hnh]; rfl) ?_
  refine x_if_eqN (tgt := 30) C (by omega) dX10_read_24 (by decide) (fun c24 => ?_) (fun c24 => absurd c24 (by omega))
  refine x_aload_n C dX10_read_30 1 rfl rfl ?_
  refine x_getrN C fl_X10_30 (xO.1 100 _ rfl).1 rfl (xO.2.1 100 3 _ rfl) dX10_read_31 ?_
  refine x_getiN C fl_X10_110 (xO.1 105 _ rfl).1 rfl dX10_read_34 ?_
  refine x_eqi (y := nI ln) hln ?_
  refine x_aload_n C dX10_read_37 0 rfl rfl ?_
  refine x_callV C (ok_X6_leastLetter S P hSd ha hha ha2 hS3 hP kn ms sz tk hs hI σ hσ hb nx hnx (by omega)) mv_X6_leastLetter ml_X10_131 hSd.1.1 rfl rfl rfl (Nat.le_of_ble_eq_true rfl) (hrm (rm := { frames := 0, cells := 0, slots := 0, locals := 0 }) hZ ⟨Nat.le_of_ble_eq_true rfl, Nat.le_of_ble_eq_true rfl⟩) (hcs hZ ⟨Nat.le_of_ble_eq_true rfl, Nat.le_of_ble_eq_true rfl⟩) dX10_read_38 (fun v G' hp => ?_)
  obtain ⟨rfl, rfl⟩ := hp
  show hX z 0 0 (T, I, L, R, A) [(2, .ref (A S)), (0, .ref (A 100)), (1, .int (nI sn))] 41 [.int (nI (lsO (lsK (hkS σ) (tk nx) (szN ms sz nx)))), .int (nI ln)]
  refine x_icmp_geN (tgt := 47) C (by omega) (by omega) dX10_read_41 (by decide) (fun c41 => ?_) (fun c41 => absurd c41 (by omega))
  refine x_aload_n C dX10_read_47 0 rfl rfl ?_
  refine x_callV C (ok_X6_isDone S P hSd hP.1.1 ms nx ha hI.1.2.2.1 ((hσ.2 13 (by decide) (by decide)).trans hnx) hha ⟨by omega, by omega, ha2⟩) mv_X6_isDone ml_X10_116 hSd.1.1 rfl rfl rfl (Nat.le_of_ble_eq_true rfl) (hrm (rm := { frames := 0, cells := 0, slots := 0, locals := 0 }) hZ ⟨Nat.le_of_ble_eq_true rfl, Nat.le_of_ble_eq_true rfl⟩) (hcs hZ ⟨Nat.le_of_ble_eq_true rfl, Nat.le_of_ble_eq_true rfl⟩) dX10_read_48 (fun v G' hp => ?_)
  obtain ⟨rfl, rfl⟩ := hp
  show hX z 0 0 (T, I, L, R, A) [(2, .ref (A S)), (0, .ref (A 100)), (1, .int (nI sn))] 51 [.int (bI (decide (ms ≤ nx)))]
  refine x_eqi (y := nI 0) (by rw [decide_eq_false (by omega)]; rfl) ?_
  refine x_if_eqN (tgt := 76) C (by omega) dX10_read_51 (by decide) (fun c51 => ?_) (fun c51 => absurd c51 (by omega))
  refine x_aload_n C dX10_read_76 1 rfl rfl ?_
  refine x_getrN C fl_X10_39 (xO.1 100 _ rfl).1 rfl (xO.2.1 100 5 _ rfl) dX10_read_77 ?_
  refine x_aload_n C dX10_read_80 0 rfl rfl ?_
  refine x_aload_n C dX10_read_81 1 rfl rfl ?_
  refine x_getrN C fl_X10_30 (xO.1 100 _ rfl).1 rfl (xO.2.1 100 3 _ rfl) dX10_read_82 ?_
  refine x_aload_n C dX10_read_85 1 rfl rfl ?_
  refine x_getrN C fl_X10_33 (xO.1 100 _ rfl).1 rfl (xO.2.1 100 4 _ rfl) dX10_read_86 ?_
  refine x_callV C (ok_X9_take xO hsa S P hSd ha hha ha2 hS3 hP kn ms sz tk hs hI hP2 hP1 hst cp cq cr cs h4 σ hσ hb nx hnx hnm sec hsec ln hln hl160 lt hlt hlb hls) mv_X9_take ml_X10_138 (xO.1 109 _ rfl).1 rfl rfl rfl (Nat.le_of_ble_eq_true rfl) (hrm (rm := { frames := 0, cells := 0, slots := 0, locals := 0 }) hZ ⟨Nat.le_of_ble_eq_true rfl, Nat.le_of_ble_eq_true rfl⟩) (hcs hZ ⟨Nat.le_of_ble_eq_true rfl, Nat.le_of_ble_eq_true rfl⟩) dX10_read_89 (fun v G' hp => ?_)
  obtain ⟨J1, L1, R1, rfl, ⟨k1, k2⟩, hq⟩ := hp
  rcases hq with ⟨rfl, g1, g2⟩ | ⟨rfl, M, g1, g2, g3, g4, g5⟩
  · have xO := isX.r121 xO k1
    show hX z 0 0 (T, J1, L1, R1, A) [(2, .ref (A S)), (0, .ref (A 100)), (1, .int (nI sn))] 92 [.int (nI 0)]
    refine x_istore_n (lv' := [(3, .int (nI 0)), (2, .ref (A S)), (0, .ref (A 100)), (1, .int (nI sn))]) C dX10_read_92 rfl (Nat.lt_of_lt_of_eq (by decide) hN.symm) rfl ?_
    refine x_iload_n C dX10_read_93 0 rfl rfl ?_
    refine x_if_eqN (tgt := 107) C (by omega) dX10_read_94 (by decide) (fun c94 => ?_) (fun c94 => absurd c94 (by omega))
    refine x_bipush (v := (-6)) C dX10_read_107 (by decide +kernel) ?_
    exact x_iret C E (Nat.le_of_ble_eq_true rfl) (Nat.le_of_ble_eq_true rfl) dX10_read_109 (⟨J1, L1, R1, rfl, ⟨k1, k2⟩, Or.inl ⟨rfl, g1, g2⟩⟩)
  · have xO := isX.r121 xO k1
    show hX z 0 0 (T, J1, L1, R1, A) [(2, .ref (A S)), (0, .ref (A 100)), (1, .int (nI sn))] 92 [.int (nI 1)]
    refine x_istore_n (lv' := [(3, .int (nI 1)), (2, .ref (A S)), (0, .ref (A 100)), (1, .int (nI sn))]) C dX10_read_92 rfl (Nat.lt_of_lt_of_eq (by decide) hN.symm) rfl ?_
    refine x_iload_n C dX10_read_93 0 rfl rfl ?_
    refine x_if_eqN (tgt := 107) C (by omega) dX10_read_94 (by decide) (fun c94 => absurd c94 (by omega)) (fun c94 => ?_)
    refine x_aload_n C dX10_read_97 2 rfl rfl ?_
    refine x_getrN C fl_X10_33 (xO.1 100 _ rfl).1 rfl (xO.2.1 100 4 _ rfl) dX10_read_98 ?_
    refine x_getiN C fl_X10_110 (xO.1 107 _ rfl).1 rfl dX10_read_101 ?_
    refine x_eqi (y := nI M.2.2) g3 ?_
    refine x_goto (tgt := 109) C dX10_read_104 (by decide) ?_
    exact x_iret C E (Nat.le_of_ble_eq_true rfl) (Nat.le_of_ble_eq_true rfl) dX10_read_109 (⟨J1, L1, R1, rfl, ⟨k1, k2⟩, Or.inr ⟨M, rfl, g1, g2, g3, g4, g5⟩⟩)

