/-! ===== Talk: sendDone, takeDone, giveKeys ===== -/
def dnF (σ : sgT) (tp : Nat → Int32) (tn : Nat) : Nat → Int32 := encF (σ 2) (σ 7 10) 0 (fun _ => 0) tp tn
def dnO (σ : sgT) (lt : Nat → Int32) (ln : Nat) : Bool := tagB (σ 3) (σ 7 11) 0 (fun _ => 0) lt (ln - 16)
def dnG (σ : sgT) (lt : Nat → Int32) (j : Nat) : Int32 := lt j ^^^ strm (σ 3) (σ 7 11) j
theorem stE.f {σ : sgT} {I J : Nat → Nat → Int32} {u i : Nat} {v w : Int32} {S : List Nat} (h : stE σ I u) (hu : J u = upd (I u) i v) (hv : v = w) (f : fx S I J) (hs : ∀ k, k < 7 → u + 1 + k ∉ S) : stE (sFl σ i w) J u := by
  subst hv
  refine ⟨fun k hk j hj => ?_, fun i g1 g2 => ?_⟩
  · rw [sFl_n (by omega), f _ (hs k hk)]; exact h.1 k hk j hj
  · rw [hu, sFl_s]; exact upd_cg (h.2 i g1 g2)
set_option maxHeartbeats 4000000 in
set_option maxRecDepth 100000 in
theorem ok_X9_sendDone {l : Launch} {a0 : Nat} {D : va_G} {sa : Nat → Nat} {T : Nat → Option hKd} {I : Nat → Nat → Int32} {L : Nat → Nat → Int64} {R : Nat → Nat → Option Nat} {A : Nat → Nat} (xO : isX T R A a0) (hsa : ∀ k, k < 5 → sa k = A (90 + k)) (S P : Nat) (hSd : isSd T R A a0 S P) (ha : Nat) (hha : I S 2 = nI ha) (ha2 : ha < 2) (hS3 : 300 ≤ S) (σ : sgT) (hσ : stE σ I (S + 4)) (tn : Nat) (htn : I 103 1 = nI tn) (ht64 : tn ≤ 64) (tp : Nat → Int32) (htp : ∀ j, j < tn → I 104 j = tp j) (htb : ∀ j, j < tn → byt (tp j) < 256)  : hM l a0 D sa yX9_sendDone cX9_sendDone 4 none { frames := 5, cells := 0, slots := 0, locals := 125 } [.ref (A 109), .ref (A (S + 4)), .ref (A 103), .ref (A 105)] (T, I, L, R, A) (fun r G' => r = none ∧ ∃ I' L', G' = (T, I', L', R, A) ∧ stE (sFl σ 10 (σ 7 10 + 1)) I' (S + 4) ∧ I' 105 1 = nI (tn + 16) ∧ (∀ j, j < tn + 16 → I' 106 j = dnF σ tp tn j) ∧ fx [105, 106, 133, 134, 135, 136, 141, 142, S + 4] I I') := by
  refine hM.of (by decide +kernel) (Nat.le_of_ble_eq_true rfl) ?_
  intro z hl h0 hD hS hN C E
  subst hl; subst h0; subst hD; subst hS
  have C : hC z RX9 cX9_sendDone := C
  have hZ := E.2.2.2.1
  show hX z 0 0 (T, I, L, R, A) [(0, .ref (A 109)), (1, .ref (A (S + 4))), (2, .ref (A 103)), (3, .ref (A 105))] 0 []
  refine x_aload_n C dX9_sendDone_0 3 rfl rfl ?_
  refine x_iconst (v := nI 0) C dX9_sendDone_1 (by decide +kernel) ?_
  refine x_putiN C fl_X9_162 (xO.1 105 _ rfl).1 (xO.1 105 _ rfl).2 rfl dX9_sendDone_2 (fun I1 eI1 => ?_)
  refine x_aload_n C dX9_sendDone_5 3 rfl rfl ?_
  refine x_aload_n C dX9_sendDone_6 2 rfl rfl ?_
  refine x_getrN C fl_X9_185 (xO.1 103 _ rfl).1 rfl (xO.2.1 103 0 _ rfl) dX9_sendDone_7 ?_
  refine x_iconst (v := nI 0) C dX9_sendDone_10 (by decide +kernel) ?_
  refine x_aload_n C dX9_sendDone_11 2 rfl rfl ?_
  refine x_getiN C fl_X9_162 (xO.1 103 _ rfl).1 rfl dX9_sendDone_12 ?_
  refine x_eqi (y := nI tn) (by rw [eI1, va_up_other _ _ (by decide)]; exact htn) ?_
  refine x_callV C (ok_X4_putAll 105 106 160 0 (xO.1 105 _ rfl).1 (xO.2.1 105 0 _ rfl) (xO.1 106 _ rfl).1 (by decide) (by rw [eI1, va_up_same]; simp [upd]) (by omega) (xO.1 105 _ rfl).2 (xO.1 106 _ rfl).2 (by decide) 104 64 0 tn (xO.1 104 _ rfl).1 (by decide) (by omega) ht64 (by omega) (by decide) (by decide)) mv_X4_putAll ml_X9_204 (xO.1 105 _ rfl).1 rfl rfl rfl (Nat.le_of_ble_eq_true rfl) (hrm (rm := { frames := 0, cells := 0, slots := 0, locals := 0 }) hZ ⟨Nat.le_of_ble_eq_true rfl, Nat.le_of_ble_eq_true rfl⟩) (hcs hZ ⟨Nat.le_of_ble_eq_true rfl, Nat.le_of_ble_eq_true rfl⟩) dX9_sendDone_15 (fun v G' hp => ?_)
  obtain ⟨rfl, J1, rfl, r1, r2, r3⟩ := hp
  have x1 : ∀ j, j < tn → J1 106 j = tp j := fun j hj => by rw [r1]; show (if 0 ≤ j ∧ j < 0 + (tn - 0) then I1 104 (0 + (j - 0)) else _) = _; rw [if_pos (by omega), show 0 + (j - 0) = j by omega, eI1, va_up_other _ _ (by decide)]; exact htp j hj
  show hX z 0 0 (T, J1, L, R, A) [(0, .ref (A 109)), (1, .ref (A (S + 4))), (2, .ref (A 103)), (3, .ref (A 105))] 18 []
  refine x_aload_n C dX9_sendDone_18 0 rfl rfl ?_
  refine x_getrN C fl_X9_35 (xO.1 109 _ rfl).1 rfl (xO.2.1 109 3 _ rfl) dX9_sendDone_19 ?_
  refine x_aload_n C dX9_sendDone_22 1 rfl rfl ?_
  refine x_getrN C fl_X9_208 hSd.2.2.2.1 rfl (hSd.2.2.2.2.2 2 (by decide)).1 dX9_sendDone_23 ?_
  refine x_aload_n C dX9_sendDone_26 1 rfl rfl ?_
  refine x_getiN C fl_X9_138 hSd.2.2.2.1 rfl dX9_sendDone_27 ?_
  refine x_eqi (y := σ 7 10) (by rw [r3 (S + 4) (by simp <;> omega), eI1, va_up_other _ _ (by omega)]; exact hσ.2 10 (by decide) (by decide)) ?_
  refine x_getsNN (k := 4) C (hsa 4 (by decide)) rfl sl_X9_211 dX9_sendDone_30 ?_
  refine x_aload_n C dX9_sendDone_33 3 rfl rfl ?_
  refine x_iconst (v := nI 0) C dX9_sendDone_34 (by decide +kernel) ?_
  refine x_callV C (ok_X0_seal xO hsa (S + 4 + 1 + 2) 32 (σ 7 10) (hSd.2.2.2.2.2 2 (by decide)).2.1 (by decide) (by decide) (by omega) 94 0 0 (xO.2.2 94 _ rfl) (by decide) (by decide) (by decide) (fun j hj => absurd hj (Nat.not_lt_zero j)) 0 tn (by rw [r2]; simp [upd]) (by omega) (by omega) (by decide) (fun j j1 j2 => by rw [x1 _ (by omega)]; exact htb _ (by omega))) mv_X0_seal ml_X9_214 (xO.1 132 _ rfl).1 rfl rfl rfl (Nat.le_of_ble_eq_true rfl) (hrm (rm := { frames := 0, cells := 0, slots := 0, locals := 0 }) hZ ⟨Nat.le_of_ble_eq_true rfl, Nat.le_of_ble_eq_true rfl⟩) (hcs hZ ⟨Nat.le_of_ble_eq_true rfl, Nat.le_of_ble_eq_true rfl⟩) dX9_sendDone_35 (fun v G' hp => ?_)
  obtain ⟨rfl, J2, L1, rfl, q1, q2, q3, q4, q5⟩ := hp
  show hX z 0 0 (T, J2, L1, R, A) [(0, .ref (A 109)), (1, .ref (A (S + 4))), (2, .ref (A 103)), (3, .ref (A 105))] 38 []
  refine x_aload_n C dX9_sendDone_38 1 rfl rfl ?_
  refine x_dup C dX9_sendDone_39 rfl ?_
  refine x_getiN C fl_X9_138 hSd.2.2.2.1 rfl dX9_sendDone_40 ?_
  refine x_eqi (y := σ 7 10) (by rw [q4 (S + 4) (by simp <;> omega), r3 (S + 4) (by simp <;> omega), eI1, va_up_other _ _ (by omega)]; exact hσ.2 10 (by decide) (by decide)) ?_
  refine x_iconst (v := nI 1) C dX9_sendDone_43 (by decide +kernel) ?_
  refine x_iadd C dX9_sendDone_44 ?_
  refine x_putiN C fl_X9_138 hSd.2.2.2.1 hSd.2.2.2.2.1 rfl dX9_sendDone_45 (fun I2 eI2 => ?_)
  exact x_vret C E (Nat.le_of_ble_eq_true rfl) (Nat.le_of_ble_eq_true rfl) dX9_sendDone_48 (by
      have f1 : fx [105, 106, 133, 134, 135, 136, 141, 142, S + 4] I I1 := by rw [eI1]; exact fx.rf.up (by simp)
      have f2 : fx [105, 106, 133, 134, 135, 136, 141, 142, S + 4] I J2 := (f1.tr r3 (by simp)).tr q4 (by simp)
      have f3 : fx [105, 106, 133, 134, 135, 136, 141, 142, S + 4] I I2 := by rw [eI2]; exact f2.up (by simp)
      have g4 : J2 (S + 4) = I (S + 4) := by rw [q4 (S + 4) (by simp <;> omega), r3 (S + 4) (by simp <;> omega), eI1, va_up_other _ _ (by omega)]
      refine ⟨rfl, I2, L1, rfl, ?_, ?_, fun j hj => ?_, f3⟩
      · exact hσ.f (v := σ 7 10 + nI 1) (by rw [eI2, va_up_same, g4]) rfl f3 (by intro k hk; simp; omega)
      · rw [eI2, va_up_other _ _ (by omega), q3]; simp [upd]
      · rw [eI2, va_up_other _ _ (by omega)]
        have e1 := q1 j (by omega)
        rw [Nat.zero_add] at e1
        rw [e1]
        exact encF_cg (fun i hi => by rw [r3 (S + 4 + 1 + 2) (by simp <;> omega), eI1, va_up_other _ _ (by omega)]; exact hσ.1 2 (by decide) i hi) (fun j hj => absurd hj (Nat.not_lt_zero j)) (fun j hj => by show J1 106 (0 + j) = _; rw [Nat.zero_add]; exact x1 j (by omega)) j)

set_option maxHeartbeats 4000000 in
set_option maxRecDepth 100000 in
theorem ok_X9_takeDone {l : Launch} {a0 : Nat} {D : va_G} {sa : Nat → Nat} {T : Nat → Option hKd} {I : Nat → Nat → Int32} {L : Nat → Nat → Int64} {R : Nat → Nat → Option Nat} {A : Nat → Nat} (xO : isX T R A a0) (hsa : ∀ k, k < 5 → sa k = A (90 + k)) (S P : Nat) (hSd : isSd T R A a0 S P) (ha : Nat) (hha : I S 2 = nI ha) (ha2 : ha < 2) (hS3 : 300 ≤ S) (σ : sgT) (hσ : stE σ I (S + 4)) (ln : Nat) (hln : I 105 1 = nI ln) (hl160 : ln ≤ 160) (lt : Nat → Int32) (hlt : ∀ j, j < ln → I 106 j = lt j) (hlb : ∀ j, j < ln → byt (lt j) < 256) (h16 : 16 ≤ ln) : hM l a0 D sa yX9_takeDone cX9_takeDone 5 (some .boolean) { frames := 5, cells := 0, slots := 0, locals := 129 } [.ref (A 109), .ref (A (S + 4)), .ref (A 105), .ref (A 107)] (T, I, L, R, A) (fun r G' => ∃ I' L', G' = (T, I', L', R, A) ∧ ((r = some (.int (nI 0)) ∧ dnO σ lt ln = false ∧ fx [133, 134, 135, 136, 141, 142] I I') ∨ (r = some (.int (nI 1)) ∧ dnO σ lt ln = true ∧ stE (sFl σ 11 (σ 7 11 + 1)) I' (S + 4) ∧ I' 107 1 = nI (ln - 16) ∧ (∀ j, j < ln - 16 → I' 108 j = dnG σ lt j) ∧ fx [107, 108, 133, 134, 135, 136, 141, 142, S + 4] I I'))) := by
  refine hM.of (by decide +kernel) (Nat.le_of_ble_eq_true rfl) ?_
  intro z hl h0 hD hS hN C E
  subst hl; subst h0; subst hD; subst hS
  have C : hC z RX9 cX9_takeDone := C
  have hZ := E.2.2.2.1
  show hX z 0 0 (T, I, L, R, A) [(0, .ref (A 109)), (1, .ref (A (S + 4))), (2, .ref (A 105)), (3, .ref (A 107))] 0 []
  refine x_aload_n C dX9_takeDone_0 2 rfl rfl ?_
  refine x_getiN C fl_X9_162 (xO.1 105 _ rfl).1 rfl dX9_takeDone_1 ?_
  refine x_eqi (y := nI ln) hln ?_
  refine x_bipush (v := nI 16) C dX9_takeDone_4 (by decide +kernel) ?_
  refine x_isubN C (by omega) dX9_takeDone_6 ?_
  refine x_istore (lv' := [(4, .int (nI (ln - 16))), (0, .ref (A 109)), (1, .ref (A (S + 4))), (2, .ref (A 105)), (3, .ref (A 107))]) C dX9_takeDone_7 (Nat.lt_of_lt_of_eq (by decide) hN.symm) rfl ?_
  refine x_aload_n C dX9_takeDone_9 1 rfl rfl ?_
  refine x_getrN C fl_X9_35 (xO.1 109 _ rfl).1 rfl (xO.2.1 109 3 _ rfl) dX9_takeDone_10 ?_
  refine x_aload_n C dX9_takeDone_13 2 rfl rfl ?_
  refine x_getrN C fl_X9_217 hSd.2.2.2.1 rfl (hSd.2.2.2.2.2 3 (by decide)).1 dX9_takeDone_14 ?_
  refine x_aload_n C dX9_takeDone_17 2 rfl rfl ?_
  refine x_getiN C fl_X9_220 hSd.2.2.2.1 rfl dX9_takeDone_18 ?_
  refine x_eqi (y := σ 7 11) (hσ.2 11 (by decide) (by decide)) ?_
  refine x_getsNN (k := 4) C (hsa 4 (by decide)) rfl sl_X9_211 dX9_takeDone_21 ?_
  refine x_aload_n C dX9_takeDone_24 3 rfl rfl ?_
  refine x_iconst (v := nI 0) C dX9_takeDone_25 (by decide +kernel) ?_
  refine x_iload C dX9_takeDone_26 0 rfl ?_
  refine x_aload_n C dX9_takeDone_28 4 rfl rfl ?_
  refine x_callV C (ok_X0_open xO hsa (S + 4 + 1 + 3) 32 (σ 7 11) (hSd.2.2.2.2.2 3 (by decide)).2.1 (by decide) (by decide) (by omega) 94 0 0 (xO.2.2 94 _ rfl) (by decide) (by decide) (by decide) (fun j hj => absurd hj (Nat.not_lt_zero j)) 0 (ln - 16) ln hln hl160 (by omega) (by omega) (by decide) (fun j j1 j2 => by rw [hlt j (by omega)]; exact hlb j (by omega)) 107 108 160 (xO.1 107 _ rfl).1 (xO.2.1 107 0 _ rfl) (xO.1 108 _ rfl).1 (by decide) (xO.1 107 _ rfl).2 (xO.1 108 _ rfl).2 (by decide) (by decide) (by omega)) mv_X0_open ml_X9_223 (xO.1 132 _ rfl).1 rfl rfl rfl (Nat.le_of_ble_eq_true rfl) (hrm (rm := { frames := 0, cells := 0, slots := 0, locals := 0 }) hZ ⟨Nat.le_of_ble_eq_true rfl, Nat.le_of_ble_eq_true rfl⟩) (hcs hZ ⟨Nat.le_of_ble_eq_true rfl, Nat.le_of_ble_eq_true rfl⟩) dX9_takeDone_29 (fun v G' hp => ?_)
  obtain ⟨J2, L1, rfl, oL, hq⟩ := hp
  rcases hq with ⟨rfl, oT, q5⟩ | ⟨rfl, oT, ob, oh, q5⟩
  · have oB : dnO σ lt ln = false := Bool.eq_false_iff.mpr (fun h => oT ((tagR_cg (K' := σ 3) (X' := fun _ => 0) (g' := lt) (fun i hi => hσ.1 3 (by decide) i hi) (fun j hj => absurd hj (Nat.not_lt_zero j)) (fun j hj => by show I 106 (0 + j) = _; rw [Nat.zero_add]; exact hlt j (by omega))).mpr (tagB_iff.mp h)))
    show hX z 0 0 (T, J2, L1, R, A) [(4, .int (nI (ln - 16))), (0, .ref (A 109)), (1, .ref (A (S + 4))), (2, .ref (A 105)), (3, .ref (A 107))] 32 [.int (nI 0)]
    refine x_if_neN (tgt := 37) C (by omega) dX9_takeDone_32 (by decide) (fun c32 => absurd c32 (by omega)) (fun c32 => ?_)
    refine x_iconst (v := nI 0) C dX9_takeDone_35 (by decide +kernel) ?_
    exact x_zret C E (by first | exact Or.inl rfl | exact Or.inr rfl | assumption) (Nat.le_of_ble_eq_true rfl) (Nat.le_of_ble_eq_true rfl) dX9_takeDone_36 (⟨J2, L1, rfl, Or.inl ⟨rfl, oB, q5⟩⟩)
  · have oB : dnO σ lt ln = true := tagB_iff.mpr ((tagR_cg (K' := σ 3) (X' := fun _ => 0) (g' := lt) (fun i hi => hσ.1 3 (by decide) i hi) (fun j hj => absurd hj (Nat.not_lt_zero j)) (fun j hj => by show I 106 (0 + j) = _; rw [Nat.zero_add]; exact hlt j (by omega))).mp oT)
    show hX z 0 0 (T, J2, L1, R, A) [(4, .int (nI (ln - 16))), (0, .ref (A 109)), (1, .ref (A (S + 4))), (2, .ref (A 105)), (3, .ref (A 107))] 32 [.int (nI 1)]
    refine x_if_neN (tgt := 37) C (by omega) dX9_takeDone_32 (by decide) (fun c32 => ?_) (fun c32 => absurd c32 (by omega))
    refine x_aload_n C dX9_takeDone_37 2 rfl rfl ?_
    refine x_dup C dX9_takeDone_38 rfl ?_
    refine x_getiN C fl_X9_220 hSd.2.2.2.1 rfl dX9_takeDone_39 ?_
    refine x_eqi (y := σ 7 11) (by rw [q5 (S + 4) (by simp <;> omega)]; exact hσ.2 11 (by decide) (by decide)) ?_
    refine x_iconst (v := nI 1) C dX9_takeDone_42 (by decide +kernel) ?_
    refine x_iadd C dX9_takeDone_43 ?_
    refine x_putiN C fl_X9_220 hSd.2.2.2.1 hSd.2.2.2.2.1 rfl dX9_takeDone_44 (fun I1 eI1 => ?_)
    refine x_iconst (v := nI 1) C dX9_takeDone_47 (by decide +kernel) ?_
    exact x_zret C E (by first | exact Or.inl rfl | exact Or.inr rfl | assumption) (Nat.le_of_ble_eq_true rfl) (Nat.le_of_ble_eq_true rfl) dX9_takeDone_48 (by
        have f3 : fx [107, 108, 133, 134, 135, 136, 141, 142, S + 4] I I1 := by rw [eI1]; exact (q5.wk (by simp)).up (by simp)
        refine ⟨I1, L1, rfl, Or.inr ⟨rfl, oB, ?_, ?_, fun j hj => ?_, f3⟩⟩
        · exact hσ.f (v := σ 7 11 + nI 1) (by rw [eI1, va_up_same, q5 (S + 4) (by simp <;> omega)]) rfl f3 (by intro k hk; simp; omega)
        · rw [eI1, va_up_other _ _ (by omega), oh]; simp [upd]
        · rw [eI1, va_up_other _ _ (by omega), ob j, if_pos (by omega), Nat.zero_add, hlt j (by omega), strm_congr (fun i hi => hσ.1 3 (by decide) i hi)]; rfl)

set_option maxHeartbeats 4000000 in
set_option maxRecDepth 100000 in
theorem ok_X9_giveKeys {l : Launch} {a0 : Nat} {D : va_G} {sa : Nat → Nat} {T : Nat → Option hKd} {I : Nat → Nat → Int32} {L : Nat → Nat → Int64} {R : Nat → Nat → Option Nat} {A : Nat → Nat} (xO : isX T R A a0) (hsa : ∀ k, k < 5 → sa k = A (90 + k)) (S P : Nat) (hSd : isSd T R A a0 S P) (ha : Nat) (hha : I S 2 = nI ha) (ha2 : ha < 2) (hS3 : 300 ≤ S) (cp cq cr cs : Nat) (h4 : cv4 R cp cq cr cs) (hst : stI I) (sv ov : Int32) : hM l a0 D sa yX9_giveKeys cX9_giveKeys 4 none { frames := 6, cells := 0, slots := 0, locals := 207 } [.ref (A 109), .ref (A S), .int sv, .int ov] (T, I, L, R, A) (fun r G' => r = none ∧ ∃ I' L' R', G' = (T, I', L', R', A) ∧ ((∀ j, j < 32 → I' (S + 1) j = if sv = -1 then I (S + 1) j else secF sv (nI 0) j) ∧ (∀ j, j < 32 → I' (S + 2) j = if sv = -1 then I (S + 2) j else pubF (secF sv (nI 0)) j)) ∧ (∀ j, j < 32 → I' (S + 3) j = if ov = -1 then I (S + 3) j else pubF (secF ov (nI 0)) j) ∧ I' S = (if ov = -1 then I S else upd (I S) 7 (nI 1)) ∧ fx [111, 112, 113, 122, 151, S, S + 1, S + 2, S + 3] I I' ∧ fr121 R R' ∧ ∃ p q r s, cv4 R' p q r s) := by
  refine hM.of (by decide +kernel) (Nat.le_of_ble_eq_true rfl) ?_
  intro z hl h0 hD hS hN C E
  subst hl; subst h0; subst hD; subst hS
  have C : hC z RX9 cX9_giveKeys := C
  have hZ := E.2.2.2.1
  show hX z 0 0 (T, I, L, R, A) [(0, .ref (A 109)), (1, .ref (A S)), (2, .int sv), (3, .int ov)] 0 []
  have J33 : ∀ (J : Nat → Nat → Int32) (K : Nat → Nat → Int64) (Q : Nat → Nat → Option Nat), ((∀ j, j < 32 → J (S + 1) j = if sv = -1 then I (S + 1) j else secF sv (nI 0) j) ∧ (∀ j, j < 32 → J (S + 2) j = if sv = -1 then I (S + 2) j else pubF (secF sv (nI 0)) j)) → (fx [111, 112, 113, 122, S + 1, S + 2] I J) → (fr121 R Q) → (∃ p q r s, cv4 Q p q r s) → hX z 0 0 (T, J, K, Q, A) [(0, .ref (A 109)), (1, .ref (A S)), (2, .int sv), (3, .int ov)] 33 [] := by
    intro J K Q hrw hf hr hcv
    clear h4
    obtain ⟨cp, cq, cr, cs, h4⟩ := hcv
    have xO := isX.r121 xO hr
    have hSd := isSd.r121 hSd hS3 hr
    refine x_iload_n C dX9_giveKeys_33 3 rfl rfl ?_
    refine x_iconst (v := (-1)) C dX9_giveKeys_34 (by decide +kernel) ?_
    refine x_icmp_eq (tgt := 53) C dX9_giveKeys_35 (by decide) (fun c35 => ?_) (fun c35 => ?_)
    · exact x_vret C E (Nat.le_of_ble_eq_true rfl) (Nat.le_of_ble_eq_true rfl) dX9_giveKeys_53 (by
        exact ⟨rfl, J, K, Q, rfl, hrw, fun j hj => by rw [if_pos c35, hf (S + 3) (by simp <;> omega)], by rw [if_pos c35, hf S (by simp <;> omega)], hf.wk (by simp), hr, cp, cq, cr, cs, h4⟩)
    · refine x_aload_n C dX9_giveKeys_38 0 rfl rfl ?_
      refine x_iload_n C dX9_giveKeys_39 3 rfl rfl ?_
      refine x_iconst (v := nI 0) C dX9_giveKeys_40 (by decide +kernel) ?_
      refine x_aload_n C dX9_giveKeys_41 1 rfl rfl ?_
      refine x_getrN C fl_X9_91 hSd.1.1 rfl hSd.2.1.2.2.2.1 dX9_giveKeys_42 ?_
      refine x_callV C (ok_X9_publicOf xO hsa cp cq cr cs h4 ov (nI 0) (S + 3) 32 (hf.st (by intro k hk; simp; omega) hst) (hSd.2.2.1 3 (by decide) (by decide)).1 (by decide) (by decide) (hSd.2.2.1 3 (by decide) (by decide)).2 (by omega)) mv_X9_publicOf ml_X9_94 (xO.1 109 _ rfl).1 rfl rfl rfl (Nat.le_of_ble_eq_true rfl) (hrm (rm := { frames := 0, cells := 0, slots := 0, locals := 0 }) hZ ⟨Nat.le_of_ble_eq_true rfl, Nat.le_of_ble_eq_true rfl⟩) (hcs hZ ⟨Nat.le_of_ble_eq_true rfl, Nat.le_of_ble_eq_true rfl⟩) dX9_giveKeys_45 (fun v G' hp => ?_)
      obtain ⟨rfl, J4, L4, R4, rfl, p1, p2, p3, p4, p5⟩ := hp
      have hSd := isSd.r121 hSd hS3 p4
      show hX z 0 0 (T, J4, L4, R4, A) [(0, .ref (A 109)), (1, .ref (A S)), (2, .int sv), (3, .int ov)] 48 []
      refine x_aload_n C dX9_giveKeys_48 1 rfl rfl ?_
      refine x_iconst (v := nI 1) C dX9_giveKeys_49 (by decide +kernel) ?_
      refine x_putzN C fl_X9_97 hSd.1.1 hSd.1.2 rfl (by first | exact Or.inl rfl | exact Or.inr rfl | assumption) dX9_giveKeys_50 (fun I1 eI1 => ?_)
      exact x_vret C E (Nat.le_of_ble_eq_true rfl) (Nat.le_of_ble_eq_true rfl) dX9_giveKeys_53 (by
          have f4 : fx [111, 112, 113, 122, 151, S, S + 1, S + 2, S + 3] I I1 := by rw [eI1]; exact ((hf.wk (by simp)).tr p3 (by simp)).up (by simp)
          refine ⟨rfl, I1, L4, R4, rfl, ⟨fun j hj => ?_, fun j hj => ?_⟩, fun j hj => ?_, ?_, f4, hr.tr p4, p5⟩
          · rw [eI1, va_up_other _ _ (by omega), p3 (S + 1) (by simp <;> omega)]; exact hrw.1 j hj
          · rw [eI1, va_up_other _ _ (by omega), p3 (S + 2) (by simp <;> omega)]; exact hrw.2 j hj
          · rw [if_neg c35, eI1, va_up_other _ _ (by omega)]; exact p1 j hj
          · rw [if_neg c35, eI1, va_up_same, p3 S (by simp <;> omega), hf S (by simp <;> omega)])
  refine x_iload_n C dX9_giveKeys_0 2 rfl rfl ?_
  refine x_iconst (v := (-1)) C dX9_giveKeys_1 (by decide +kernel) ?_
  refine x_icmp_eq (tgt := 33) C dX9_giveKeys_2 (by decide) (fun c2 => ?_) (fun c2 => ?_)
  · refine x_sub (lv' := _) [0, 1, 2, 3] rfl ?_
    exact J33 I L R ⟨fun j hj => by rw [if_pos c2], fun j hj => by rw [if_pos c2]⟩ fx.rf fr121.rf ⟨cp, cq, cr, cs, h4⟩
  · refine x_aload_n C dX9_giveKeys_5 0 rfl rfl ?_
    refine x_iload_n C dX9_giveKeys_6 2 rfl rfl ?_
    refine x_iconst (v := nI 0) C dX9_giveKeys_7 (by decide +kernel) ?_
    refine x_aload_n C dX9_giveKeys_8 1 rfl rfl ?_
    refine x_getrN C fl_X9_83 hSd.1.1 rfl hSd.2.1.2.1 dX9_giveKeys_9 ?_
    refine x_callV C (ok_X9_secretOf xO hsa sv (nI 0) (S + 1) 32 hst (hSd.2.2.1 1 (by decide) (by decide)).1 (by decide) (by decide) (hSd.2.2.1 1 (by decide) (by decide)).2 (by omega)) mv_X9_secretOf ml_X9_72 (xO.1 109 _ rfl).1 rfl rfl rfl (Nat.le_of_ble_eq_true rfl) (hrm (rm := { frames := 0, cells := 0, slots := 0, locals := 0 }) hZ ⟨Nat.le_of_ble_eq_true rfl, Nat.le_of_ble_eq_true rfl⟩) (hcs hZ ⟨Nat.le_of_ble_eq_true rfl, Nat.le_of_ble_eq_true rfl⟩) dX9_giveKeys_12 (fun v G' hp => ?_)
    obtain ⟨rfl, J2, rfl, s1, s2⟩ := hp
    show hX z 0 0 (T, J2, L, R, A) [(0, .ref (A 109)), (1, .ref (A S)), (2, .int sv), (3, .int ov)] 15 []
    refine x_aload_n C dX9_giveKeys_15 0 rfl rfl ?_
    refine x_getrN C fl_X9_28 (xO.1 109 _ rfl).1 rfl (xO.2.1 109 2 _ rfl) dX9_giveKeys_16 ?_
    refine x_aload_n C dX9_giveKeys_19 1 rfl rfl ?_
    refine x_getrN C fl_X9_83 hSd.1.1 rfl hSd.2.1.2.1 dX9_giveKeys_20 ?_
    refine x_getsN (k := 3) C (hsa 3 (by decide)) rfl sl_X9_76 dX9_giveKeys_23 ?_
    refine x_aload_n C dX9_giveKeys_26 1 rfl rfl ?_
    refine x_getrN C fl_X9_88 hSd.1.1 rfl hSd.2.1.2.2.1 dX9_giveKeys_27 ?_
    refine x_callV C (ok_X1_multiplyPoint xO hsa cp cq cr cs h4 (S + 1) 32 93 32 (S + 2) 32 b9 (hSd.2.2.1 1 (by decide) (by decide)).1 (by decide) (by decide) (xO.2.2 93 _ rfl) (by decide) (by decide) (by decide) (hSd.2.2.1 2 (by decide) (by decide)).1 (hSd.2.2.1 2 (by decide) (by decide)).2 (by decide) (by decide) (by omega) (fun j hj => ⟨((s2.st (by intro k hk; simp; omega) hst).2.2.1 j hj).trans (by unfold b9; split <;> rfl), by unfold b9; split <;> decide⟩)) mv_X1_multiplyPoint ml_X9_79 (xO.1 121 _ rfl).1 rfl rfl rfl (Nat.le_of_ble_eq_true rfl) (hrm (rm := { frames := 0, cells := 0, slots := 0, locals := 0 }) hZ ⟨Nat.le_of_ble_eq_true rfl, Nat.le_of_ble_eq_true rfl⟩) (hcs hZ ⟨Nat.le_of_ble_eq_true rfl, Nat.le_of_ble_eq_true rfl⟩) dX9_giveKeys_30 (fun v G' hp => ?_)
    obtain ⟨rfl, J3, L1, R1, rfl, d1, d2, d3, d4⟩ := hp
    have d5 : ∀ i, i < 32 → J3 (S + 2) i = pubF (secF sv (nI 0)) i := fun i hi => by rw [d1]; simp only [hi, if_true]; rw [mp_pub]; exact pub_cong (fun j hj => by rw [s1]; simp only [hj, if_true]) i
    have d6 : ∀ i, i < 32 → J3 (S + 1) i = secF sv (nI 0) i := fun i hi => by rw [d2 (S + 1) (by simp <;> omega), s1]; simp only [hi, if_true]
    show hX z 0 0 (T, J3, L1, R1, A) [(0, .ref (A 109)), (1, .ref (A S)), (2, .int sv), (3, .int ov)] 33 []
    refine x_sub (lv' := _) [0, 1, 2, 3] rfl ?_
    exact J33 J3 L1 R1 ⟨fun j hj => by rw [if_neg c2]; exact d6 j hj, fun j hj => by rw [if_neg c2]; exact d5 j hj⟩ ((s2.wk (by simp)).tr d2 (by simp)) d3 d4

