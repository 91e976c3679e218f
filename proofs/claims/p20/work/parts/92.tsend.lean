/-! ===== Talk: send ===== -/
theorem opS_7 {σ : sgT} {f : Nat → Int32} {m i : Nat} (h : i ≠ 10) : opS σ f m 7 i = σ 7 i := by
  unfold opS; rw [sFl_s]; unfold upd; rw [if_neg h, sgR_n (by decide)]
set_option maxHeartbeats 4000000 in
set_option maxRecDepth 100000 in
theorem ok_X9_send {l : Launch} {a0 : Nat} {D : va_G} {sa : Nat → Nat} {T : Nat → Option hKd} {I : Nat → Nat → Int32} {L : Nat → Nat → Int64} {R : Nat → Nat → Option Nat} {A : Nat → Nat} (xO : isX T R A a0) (hsa : ∀ k, k < 5 → sa k = A (90 + k)) (S P : Nat) (hSd : isSd T R A a0 S P) (ha : Nat) (hha : I S 2 = nI ha) (ha2 : ha < 2) (hS3 : 300 ≤ S) (hP : isPt T R A a0 P) (kn : Nat → Bool) (ms : Nat) (sz : Nat → Nat) (tk : Nat → Nat → Nat) (hs : Bool) (hI : ptI I P kn ms sz tk hs) (hP2 : P + 10 ≤ 300) (hP1 : 200 ≤ P) (hst : stI I) (cp cq cr cs : Nat) (h4 : cv4 R cp cq cr cs) (σ : sgT) (hσ : stE σ I (S + 4)) (hb : bS σ) (nx : Nat) (hnx : σ 7 13 = nI nx) (hnm : nx < ms) (sd : Int32) (hsd : I S 3 = sd) (sec pub : Nat → Int32) (hsec : ∀ j, j < 32 → I (S + 1) j = sec j) (hpub : ∀ j, j < 32 → I (S + 2) j = pub j) (hpb : ∀ j, j < 32 → byt (pub j) < 256) (tn : Nat) (htn : I 103 1 = nI tn) (ht64 : tn ≤ 64) (tp : Nat → Int32) (htp : ∀ j, j < tn → I 104 j = tp j) (htb : ∀ j, j < tn → byt (tp j) < 256) (hln : lnK (tk nx) (sz nx) ≤ 80) : hM l a0 D sa yX9_send cX9_send 8 none { frames := 6, cells := 0, slots := 0, locals := 213 } [.ref (A 109), .ref (A S), .ref (A 103), .ref (A 105)] (T, I, L, R, A) (fun r G' => r = none ∧ ∃ I' L' R', G' = (T, I', L', R', A) ∧ stE (sdM sd sec pub ha ms nx (tk nx) (sz nx) tp tn σ).1 I' (S + 4) ∧ I' 105 1 = nI (sdM sd sec pub ha ms nx (tk nx) (sz nx) tp tn σ).2.2 ∧ (∀ j, j < (sdM sd sec pub ha ms nx (tk nx) (sz nx) tp tn σ).2.2 → I' 106 j = (sdM sd sec pub ha ms nx (tk nx) (sz nx) tp tn σ).2.1 j) ∧ fx [105, 106, 111, 112, 113, 115, 116, 117, 118, 119, 120, 122, 133, 134, 135, 136, 141, 142, 152, S + 4, S + 4 + 1 + 0, S + 4 + 1 + 1, S + 4 + 1 + 2, S + 4 + 1 + 3, S + 4 + 1 + 4] I I' ∧ fr121 R R' ∧ ∃ p q r s, cv4 R' p q r s) := by
  refine hM.of (by decide +kernel) (Nat.le_of_ble_eq_true rfl) ?_
  intro z hl h0 hD hS hN C E
  subst hl; subst h0; subst hD; subst hS
  have C : hC z RX9 cX9_send := C
  have hZ := E.2.2.2.1
  show hX z 0 0 (T, I, L, R, A) [(0, .ref (A 109)), (1, .ref (A S)), (2, .ref (A 103)), (3, .ref (A 105))] 0 []
  have hms6 := hI.2.2.2.1
  have hsz5 := hI.2.2.2.2.1 nx
  refine x_aload_n C dX9_send_0 1 rfl rfl ?_
  refine x_getrN C fl_X9_101 hSd.1.1 rfl hSd.2.1.2.2.2.2 dX9_send_1 ?_
  refine x_astore (lv' := [(4, .ref (A (S + 4))), (0, .ref (A 109)), (1, .ref (A S)), (2, .ref (A 103)), (3, .ref (A 105))]) C dX9_send_4 (Nat.lt_of_lt_of_eq (by decide) hN.symm) rfl ?_
  refine x_aload_n C dX9_send_6 4 rfl rfl ?_
  refine x_iconst (v := nI 0) C dX9_send_7 (by decide +kernel) ?_
  refine x_putiN C fl_X9_162 (xO.1 105 _ rfl).1 (xO.1 105 _ rfl).2 rfl dX9_send_8 (fun I1 eI1 => ?_)
  have f_I1 : fx [105, 106, 111, 112, 113, 115, 116, 117, 118, 119, 120, 122, 133, 134, 135, 136, 141, 142, 152, S + 4, S + 4 + 1 + 0, S + 4 + 1 + 1, S + 4 + 1 + 2, S + 4 + 1 + 3, S + 4 + 1 + 4] I I1 := by rw [eI1]; exact fx.rf.up (by simp)
  refine x_aload_n C dX9_send_11 2 rfl rfl ?_
  refine x_getrN C fl_X9_145 hSd.1.1 rfl hSd.2.1.1 dX9_send_12 ?_
  refine x_aload C dX9_send_15 0 rfl ?_
  refine x_getiN C fl_X9_142 hSd.2.2.2.1 rfl dX9_send_17 ?_
  refine x_eqi (y := nI nx) (by rw [eI1, va_up_other _ _ (by omega), hσ.2 13 (by decide) (by decide)]; exact hnx) ?_
  refine x_callV C (ok_X3_sizeOf P hP kn ms sz tk hs (ptI.fx hI f_I1 (by simp <;> omega) (by simp <;> omega) (fun m hm => by simp <;> omega)) nx (by omega)) mv_X3_sizeOf ml_X9_165 hP.1.1 rfl rfl rfl (Nat.le_of_ble_eq_true rfl) (hrm (rm := { frames := 0, cells := 0, slots := 0, locals := 0 }) hZ ⟨Nat.le_of_ble_eq_true rfl, Nat.le_of_ble_eq_true rfl⟩) (hcs hZ ⟨Nat.le_of_ble_eq_true rfl, Nat.le_of_ble_eq_true rfl⟩) dX9_send_20 (fun v G' hp => ?_)
  obtain ⟨rfl, rfl⟩ := hp
  show hX z 0 0 (T, I1, L, R, A) [(4, .ref (A (S + 4))), (0, .ref (A 109)), (1, .ref (A S)), (2, .ref (A 103)), (3, .ref (A 105))] 23 [.int (szF ms sz nx)]
  refine x_eqi (y := nI (sz nx)) (by unfold szF; rw [if_pos hnm]) ?_
  refine x_istore (lv' := [(5, .int (nI (sz nx))), (4, .ref (A (S + 4))), (0, .ref (A 109)), (1, .ref (A S)), (2, .ref (A 103)), (3, .ref (A 105))]) C dX9_send_23 (Nat.lt_of_lt_of_eq (by decide) hN.symm) rfl ?_
  refine x_iconst (v := nI 0) C dX9_send_25 (by decide +kernel) ?_
  refine x_istore (lv' := [(6, .int (nI 0)), (5, .int (nI (sz nx))), (4, .ref (A (S + 4))), (0, .ref (A 109)), (1, .ref (A S)), (2, .ref (A 103)), (3, .ref (A 105))]) C dX9_send_26 (Nat.lt_of_lt_of_eq (by decide) hN.symm) rfl ?_
  have L28 : ∀ (fuel_ : Nat) (k : Nat) (J : Nat → Nat → Int32) (K : Nat → Nat → Int64) (Q : Nat → Nat → Option Nat), sz nx - k < fuel_ → (k ≤ sz nx) → (stE (sdK sd sec pub ha (tk nx) σ k).1 J (S + 4)) → (J 105 1 = nI (sdK sd sec pub ha (tk nx) σ k).2.2) → (∀ j, j < (sdK sd sec pub ha (tk nx) σ k).2.2 → J 106 j = (sdK sd sec pub ha (tk nx) σ k).2.1 j) → (fx [105, 106, 111, 112, 113, 115, 116, 117, 118, 119, 120, 122, 133, 134, 135, 136, 141, 142, 152, S + 4, S + 4 + 1 + 0, S + 4 + 1 + 1, S + 4 + 1 + 2, S + 4 + 1 + 3, S + 4 + 1 + 4] I J) → (fr121 R Q) → (∃ p q r s, cv4 Q p q r s) → hX z 0 0 (T, J, K, Q, A) [(6, .int (nI k)), (5, .int (nI (sz nx))), (4, .ref (A (S + 4))), (0, .ref (A 109)), (1, .ref (A S)), (2, .ref (A 103)), (3, .ref (A 105))] 28 [] := by
    intro fuel_
    induction fuel_ with
    | zero => intro k J K Q hmz; exact absurd hmz (Nat.not_lt_zero _)
    | succ fuel_ ih28 =>
      intro k J K Q hmz hk hE h5 h6 hf hr hcv
      clear h4
      obtain ⟨cp, cq, cr, cs, h4⟩ := hcv
      have xO := isX.r121 xO hr
      have hSd := isSd.r121 hSd hS3 hr
      have hP := isPt.r121 hP hP1 hr
      have hkb := sdK_b (sd := sd) (sec := sec) (pub := pub) (ha := ha) (tk := tk nx) hb k
      have hw : (sdK sd sec pub ha (tk nx) σ k).2.2 ≤ 80 := Nat.le_trans (sdK_len k) (Nat.le_trans (lnK_mono hk) hln)
      refine x_iload C dX9_send_28 0 rfl ?_
      refine x_iload C dX9_send_30 1 rfl ?_
      refine x_icmp_geN (tgt := 102) C (by omega) (by omega) dX9_send_32 (by decide) (fun c32 => ?_) (fun c32 => ?_)
      · refine x_aload_n C dX9_send_102 3 rfl rfl ?_
        refine x_aload C dX9_send_103 2 rfl ?_
        refine x_aload_n C dX9_send_105 5 rfl rfl ?_
        refine x_getrN C fl_X9_185 (xO.1 103 _ rfl).1 rfl (xO.2.1 103 0 _ rfl) dX9_send_106 ?_
        refine x_aload_n C dX9_send_109 5 rfl rfl ?_
        refine x_getiN C fl_X9_162 (xO.1 103 _ rfl).1 rfl dX9_send_110 ?_
        refine x_eqi (y := nI tn) (by rw [hf 103 (by simp <;> omega)]; exact htn) ?_
        refine x_aload_n C dX9_send_113 6 rfl rfl ?_
        refine x_callV C (ok_X9_seal xO hsa (S + 4) hSd.2.2.2 (by omega) (hf.st (by intro k hk; simp; omega) hst) 104 64 tn (sdK sd sec pub ha (tk nx) σ k).2.2 (xO.1 104 _ rfl).1 (by decide) ht64 (by omega) h5 (by omega) (hkS (sdK sd sec pub ha (tk nx) σ k).1) ((sdK sd sec pub ha (tk nx) σ k).1 7 10) (by rw [hE.2 7 (by decide) (by decide)]; exact hkS_b hkb) (hE.2 10 (by decide) (by decide)) (fun j hj => by rw [hf 104 (by simp <;> omega), htp j hj]; exact htb j hj) (fun j hj => by rw [hE.1 1 (by decide) j hj]; exact hkb.1 j hj)) mv_X9_seal ml_X9_177 (xO.1 109 _ rfl).1 rfl rfl rfl (Nat.le_of_ble_eq_true rfl) (hrm (rm := { frames := 0, cells := 0, slots := 0, locals := 0 }) hZ ⟨Nat.le_of_ble_eq_true rfl, Nat.le_of_ble_eq_true rfl⟩) (hcs hZ ⟨Nat.le_of_ble_eq_true rfl, Nat.le_of_ble_eq_true rfl⟩) dX9_send_114 (fun v G' hp => ?_)
        obtain ⟨rfl, JS, LS, rfl, q1, q2, q3, q4, q5, q6, q7⟩ := hp
        have ep : ∀ j, j < tn → J 104 j = tp j := fun j hj => by rw [hf 104 (by simp <;> omega)]; exact htp j hj
        have n1 : stE (opS (sdK sd sec pub ha (tk nx) σ k).1 tp tn) JS (S + 4) := hE.s rfl rfl ep q4 q5 q6 (by intro k h1 h2; simp; omega)
        have n3 : ∀ j, j < (sdK sd sec pub ha (tk nx) σ k).2.2 + slN (hkS (sdK sd sec pub ha (tk nx) σ k).1) tn → JS 106 j = lay (sdK sd sec pub ha (tk nx) σ k).2.1 (sdK sd sec pub ha (tk nx) σ k).2.2 (selF (sdK sd sec pub ha (tk nx) σ k).1 tp tn) j := lay_s (fun j hj => (q2 j hj).trans (h6 j hj)) (fun j hj => (q1 j hj).trans (selF_c hE rfl rfl ep j hj))
        have n4 : fx [105, 106, 111, 112, 113, 115, 116, 117, 118, 119, 120, 122, 133, 134, 135, 136, 141, 142, 152, S + 4, S + 4 + 1 + 0, S + 4 + 1 + 1, S + 4 + 1 + 2, S + 4 + 1 + 3, S + 4 + 1 + 4] I JS := hf.tr q6 (by simp)
        show hX z 0 0 (T, JS, LS, Q, A) [(6, .int (nI k)), (5, .int (nI (sz nx))), (4, .ref (A (S + 4))), (0, .ref (A 109)), (1, .ref (A S)), (2, .ref (A 103)), (3, .ref (A 105))] 117 []
        refine x_aload_n C dX9_send_117 3 rfl rfl ?_
        refine x_aload_n C dX9_send_118 4 rfl rfl ?_
        refine x_aload C dX9_send_119 2 rfl ?_
        refine x_callV C (ok_X9_endMessage xO hsa S P hSd ha (by rw [n4 S (by simp <;> omega)]; exact hha) ha2 hS3 (S + 4) hSd.2.2.2 (by omega) (Or.inr rfl) hP.1.1 (by omega) hP1 (n4.st (by intro k hk; simp; omega) hst) ms nx (by rw [n4 P (by simp <;> omega)]; exact hI.1.2.2.1) (by rw [n1.2 13 (by decide) (by decide), opS_7 (by decide)]; exact (sdK_7 (by omega) _).trans hnx) ⟨by omega, by omega⟩) mv_X9_endMessage ml_X9_188 (xO.1 109 _ rfl).1 rfl rfl rfl (Nat.le_of_ble_eq_true rfl) (hrm (rm := { frames := 0, cells := 0, slots := 0, locals := 0 }) hZ ⟨Nat.le_of_ble_eq_true rfl, Nat.le_of_ble_eq_true rfl⟩) (hcs hZ ⟨Nat.le_of_ble_eq_true rfl, Nat.le_of_ble_eq_true rfl⟩) dX9_send_121 (fun v G' hp => ?_)
        obtain ⟨rfl, JZ, rfl, z1⟩ := hp
        have fz := endM_fx z1
        show hX z 0 0 (T, JZ, LS, Q, A) [(6, .int (nI k)), (5, .int (nI (sz nx))), (4, .ref (A (S + 4))), (0, .ref (A 109)), (1, .ref (A S)), (2, .ref (A 103)), (3, .ref (A 105))] 124 []
        exact x_vret C E (Nat.le_of_ble_eq_true rfl) (Nat.le_of_ble_eq_true rfl) dX9_send_124 (by
              have ek : k = sz nx := by omega
              subst ek
              exact ⟨rfl, JZ, LS, Q, rfl, n1.z ha2 z1 (by omega), by rw [fz 105 (by simp <;> omega), q3]; simp [upd]; rfl, by rw [fz 106 (by simp <;> omega)]; exact n3, n4.tr fz (by simp), hr, cp, cq, cr, cs, h4⟩)
      · refine x_aload_n C dX9_send_35 4 rfl rfl ?_
        refine x_getrN C fl_X9_145 hSd.1.1 rfl hSd.2.1.1 dX9_send_36 ?_
        refine x_aload C dX9_send_39 2 rfl ?_
        refine x_getiN C fl_X9_142 hSd.2.2.2.1 rfl dX9_send_41 ?_
        refine x_eqi (y := nI nx) (by rw [hE.2 13 (by decide) (by decide)]; exact (sdK_7 (by omega) k).trans hnx) ?_
        refine x_iload C dX9_send_44 0 rfl ?_
        refine x_callV C (ok_X3_tokenAt P hP kn ms sz tk hs (ptI.fx hI hf (by simp <;> omega) (by simp <;> omega) (fun m hm => by simp <;> omega)) nx k (by omega) (by omega)) mv_X3_tokenAt ml_X9_169 hP.1.1 rfl rfl rfl (Nat.le_of_ble_eq_true rfl) (hrm (rm := { frames := 0, cells := 0, slots := 0, locals := 0 }) hZ ⟨Nat.le_of_ble_eq_true rfl, Nat.le_of_ble_eq_true rfl⟩) (hcs hZ ⟨Nat.le_of_ble_eq_true rfl, Nat.le_of_ble_eq_true rfl⟩) dX9_send_46 (fun v G' hp => ?_)
        obtain ⟨rfl, rfl⟩ := hp
        show hX z 0 0 (T, J, K, Q, A) [(6, .int (nI k)), (5, .int (nI (sz nx))), (4, .ref (A (S + 4))), (0, .ref (A 109)), (1, .ref (A S)), (2, .ref (A 103)), (3, .ref (A 105))] 49 [.int (tkF ms sz tk nx k)]
        refine x_eqi (y := nI (tk nx k)) (by unfold tkF; rw [if_pos ⟨hnm, c32⟩]) ?_
        refine x_istore (lv' := [(7, .int (nI (tk nx k))), (6, .int (nI k)), (5, .int (nI (sz nx))), (4, .ref (A (S + 4))), (0, .ref (A 109)), (1, .ref (A S)), (2, .ref (A 103)), (3, .ref (A 105))]) C dX9_send_49 (Nat.lt_of_lt_of_eq (by decide) hN.symm) rfl ?_
        have htk5 := hI.2.2.2.2.2.1 nx k
        refine x_iload C dX9_send_51 0 rfl ?_
        refine x_if_neN (tgt := 65) C (by omega) dX9_send_53 (by decide) (fun c53 => ?_) (fun c53 => ?_)
        · refine x_iload C dX9_send_65 0 rfl ?_
          refine x_iconst (v := nI 1) C dX9_send_67 (by decide +kernel) ?_
          refine x_icmp_neN (tgt := 87) C (by omega) (by omega) dX9_send_68 (by decide) (fun c68 => ?_) (fun c68 => ?_)
          · refine x_aload_n C dX9_send_87 4 rfl rfl ?_
            refine x_aload_n C dX9_send_88 5 rfl rfl ?_
            refine x_aload C dX9_send_89 3 rfl ?_
            refine x_iload C dX9_send_91 0 rfl ?_
            refine x_callV C (ok_X9_mixDh xO hsa S P hSd ha (by rw [hf S (by simp <;> omega)]; exact hha) ha2 hS3 (S + 4) hSd.2.2.2 (by omega) (Or.inr rfl) cp cq cr cs h4 (hf.st (by intro k hk; simp; omega) hst) (tk nx k) ⟨by omega, by omega⟩ (fun j hj => by rw [hE.1 5 (by decide) j hj]; exact hkb.2.1 j hj) (fun _ j hj => by rw [hE.1 6 (by decide) j hj]; exact hkb.2.2.1 j hj)) mv_X9_mixDh ml_X9_181 (xO.1 109 _ rfl).1 rfl rfl rfl (Nat.le_of_ble_eq_true rfl) (hrm (rm := { frames := 0, cells := 0, slots := 0, locals := 0 }) hZ ⟨Nat.le_of_ble_eq_true rfl, Nat.le_of_ble_eq_true rfl⟩) (hcs hZ ⟨Nat.le_of_ble_eq_true rfl, Nat.le_of_ble_eq_true rfl⟩) dX9_send_93 (fun v G' hp => ?_)
            obtain ⟨rfl, JD, LD, QD, rfl, q1, q2, q5, q7, q8, q9⟩ := hp
            have g0 : sdT sd sec pub ha (tk nx k) (sdK sd sec pub ha (tk nx) σ k) = (opD sec ha (tk nx k) (sdK sd sec pub ha (tk nx) σ k).1, (sdK sd sec pub ha (tk nx) σ k).2.1, (sdK sd sec pub ha (tk nx) σ k).2.2) := by unfold sdT; rw [if_neg c53, if_neg c68]
            have n1 : stE (sdK sd sec pub ha (tk nx) σ (k + 1)).1 JD (S + 4) := by show stE (sdT sd sec pub ha (tk nx k) (sdK sd sec pub ha (tk nx) σ k)).1 JD (S + 4); rw [g0]; exact hE.d (dhS_c hE (fun j hj => by rw [hf (S + 1) (by simp <;> omega)]; exact hsec j hj)) q1 q2 q5 q7 (by intro k h1 h2 h3; simp; omega)
            have n2 : JD 105 1 = nI (sdK sd sec pub ha (tk nx) σ (k + 1)).2.2 := by show _ = nI (sdT sd sec pub ha (tk nx k) (sdK sd sec pub ha (tk nx) σ k)).2.2; rw [g0, q7 105 (by simp <;> omega)]; exact h5
            have n3 : ∀ j, j < (sdK sd sec pub ha (tk nx) σ (k + 1)).2.2 → JD 106 j = (sdK sd sec pub ha (tk nx) σ (k + 1)).2.1 j := by show ∀ j, j < (sdT sd sec pub ha (tk nx k) (sdK sd sec pub ha (tk nx) σ k)).2.2 → JD 106 j = (sdT sd sec pub ha (tk nx k) (sdK sd sec pub ha (tk nx) σ k)).2.1 j; rw [g0, q7 106 (by simp <;> omega)]; exact h6
            have n4 : fx [105, 106, 111, 112, 113, 115, 116, 117, 118, 119, 120, 122, 133, 134, 135, 136, 141, 142, 152, S + 4, S + 4 + 1 + 0, S + 4 + 1 + 1, S + 4 + 1 + 2, S + 4 + 1 + 3, S + 4 + 1 + 4] I JD := hf.tr q7 (by simp)
            have n5 : fr121 R QD := fr121.tr hr q8
            have n6 := q9
            show hX z 0 0 (T, JD, LD, QD, A) [(7, .int (nI (tk nx k))), (6, .int (nI k)), (5, .int (nI (sz nx))), (4, .ref (A (S + 4))), (0, .ref (A 109)), (1, .ref (A S)), (2, .ref (A 103)), (3, .ref (A 105))] 96 []
            refine x_iinc (v := nI (k + 1)) (lv' := [(6, .int (nI (k + 1))), (7, .int (nI (tk nx k))), (5, .int (nI (sz nx))), (4, .ref (A (S + 4))), (0, .ref (A 109)), (1, .ref (A S)), (2, .ref (A 103)), (3, .ref (A 105))]) C dX9_send_96 1 rfl (nI_inc 1) (Nat.lt_of_lt_of_eq (by decide) hN.symm) rfl ?_
            refine x_goto (tgt := 28) C dX9_send_99 (by decide) ?_
            refine x_sub (lv' := _) [0, 2, 3, 4, 5, 6, 7] rfl ?_
            exact ih28 (k + 1) JD LD QD (by omega) (by omega) n1 n2 n3 n4 n5 n6
          · refine x_aload_n C dX9_send_71 4 rfl rfl ?_
            refine x_aload C dX9_send_72 3 rfl ?_
            refine x_aload_n C dX9_send_74 5 rfl rfl ?_
            refine x_getrN C fl_X9_88 hSd.1.1 rfl hSd.2.1.2.2.1 dX9_send_75 ?_
            refine x_bipush (v := nI 32) C dX9_send_78 (by decide +kernel) ?_
            refine x_aload_n C dX9_send_80 7 rfl rfl ?_
            refine x_callV C (ok_X9_seal xO hsa (S + 4) hSd.2.2.2 (by omega) (hf.st (by intro k hk; simp; omega) hst) (S + 2) 32 32 (sdK sd sec pub ha (tk nx) σ k).2.2 (hSd.2.2.1 2 (by decide) (by decide)).1 (by decide) (by decide) (by omega) h5 (by omega) (hkS (sdK sd sec pub ha (tk nx) σ k).1) ((sdK sd sec pub ha (tk nx) σ k).1 7 10) (by rw [hE.2 7 (by decide) (by decide)]; exact hkS_b hkb) (hE.2 10 (by decide) (by decide)) (fun j hj => by rw [hf (S + 2) (by simp <;> omega), hpub j hj]; exact hpb j hj) (fun j hj => by rw [hE.1 1 (by decide) j hj]; exact hkb.1 j hj)) mv_X9_seal ml_X9_177 (xO.1 109 _ rfl).1 rfl rfl rfl (Nat.le_of_ble_eq_true rfl) (hrm (rm := { frames := 0, cells := 0, slots := 0, locals := 0 }) hZ ⟨Nat.le_of_ble_eq_true rfl, Nat.le_of_ble_eq_true rfl⟩) (hcs hZ ⟨Nat.le_of_ble_eq_true rfl, Nat.le_of_ble_eq_true rfl⟩) dX9_send_81 (fun v G' hp => ?_)
            obtain ⟨rfl, JS, LS, rfl, q1, q2, q3, q4, q5, q6, q7⟩ := hp
            have g0 : sdT sd sec pub ha (tk nx k) (sdK sd sec pub ha (tk nx) σ k) = (opS (sdK sd sec pub ha (tk nx) σ k).1 pub 32, lay (sdK sd sec pub ha (tk nx) σ k).2.1 (sdK sd sec pub ha (tk nx) σ k).2.2 (selF (sdK sd sec pub ha (tk nx) σ k).1 pub 32), (sdK sd sec pub ha (tk nx) σ k).2.2 + slN (hkS (sdK sd sec pub ha (tk nx) σ k).1) 32) := by unfold sdT; rw [if_neg c53, if_pos c68]
            have ep : ∀ j, j < 32 → J (S + 2) j = pub j := fun j hj => by rw [hf (S + 2) (by simp <;> omega)]; exact hpub j hj
            have n1 : stE (sdK sd sec pub ha (tk nx) σ (k + 1)).1 JS (S + 4) := by show stE (sdT sd sec pub ha (tk nx k) (sdK sd sec pub ha (tk nx) σ k)).1 JS (S + 4); rw [g0]; exact hE.s rfl rfl ep q4 q5 q6 (by intro k h1 h2; simp; omega)
            have n2 : JS 105 1 = nI (sdK sd sec pub ha (tk nx) σ (k + 1)).2.2 := by show _ = nI (sdT sd sec pub ha (tk nx k) (sdK sd sec pub ha (tk nx) σ k)).2.2; rw [g0, q3]; simp [upd]
            have n3 : ∀ j, j < (sdK sd sec pub ha (tk nx) σ (k + 1)).2.2 → JS 106 j = (sdK sd sec pub ha (tk nx) σ (k + 1)).2.1 j := by show ∀ j, j < (sdT sd sec pub ha (tk nx k) (sdK sd sec pub ha (tk nx) σ k)).2.2 → JS 106 j = (sdT sd sec pub ha (tk nx k) (sdK sd sec pub ha (tk nx) σ k)).2.1 j; rw [g0]; exact lay_s (fun j hj => (q2 j hj).trans (h6 j hj)) (fun j hj => (q1 j hj).trans (selF_c hE rfl rfl ep j hj))
            have n4 : fx [105, 106, 111, 112, 113, 115, 116, 117, 118, 119, 120, 122, 133, 134, 135, 136, 141, 142, 152, S + 4, S + 4 + 1 + 0, S + 4 + 1 + 1, S + 4 + 1 + 2, S + 4 + 1 + 3, S + 4 + 1 + 4] I JS := hf.tr q6 (by simp)
            have n5 : fr121 R Q := hr
            have n6 : ∃ p q r s, cv4 Q p q r s := ⟨cp, cq, cr, cs, h4⟩
            show hX z 0 0 (T, JS, LS, Q, A) [(7, .int (nI (tk nx k))), (6, .int (nI k)), (5, .int (nI (sz nx))), (4, .ref (A (S + 4))), (0, .ref (A 109)), (1, .ref (A S)), (2, .ref (A 103)), (3, .ref (A 105))] 84 []
            refine x_goto (tgt := 96) C dX9_send_84 (by decide) ?_
            refine x_iinc (v := nI (k + 1)) (lv' := [(6, .int (nI (k + 1))), (7, .int (nI (tk nx k))), (5, .int (nI (sz nx))), (4, .ref (A (S + 4))), (0, .ref (A 109)), (1, .ref (A S)), (2, .ref (A 103)), (3, .ref (A 105))]) C dX9_send_96 1 rfl (nI_inc 1) (Nat.lt_of_lt_of_eq (by decide) hN.symm) rfl ?_
            refine x_goto (tgt := 28) C dX9_send_99 (by decide) ?_
            refine x_sub (lv' := _) [0, 2, 3, 4, 5, 6, 7] rfl ?_
            exact ih28 (k + 1) JS LS Q (by omega) (by omega) n1 n2 n3 n4 n5 n6
        · refine x_aload_n C dX9_send_56 4 rfl rfl ?_
          refine x_aload_n C dX9_send_57 5 rfl rfl ?_
          refine x_aload_n C dX9_send_58 7 rfl rfl ?_
          refine x_callV C (ok_X9_sendE xO hsa S P hSd ha (by rw [hf S (by simp <;> omega)]; exact hha) ha2 hS3 cp cq cr cs h4 (hf.st (by intro k hk; simp; omega) hst) (sdK sd sec pub ha (tk nx) σ k).2.2 h5 (by omega) sd (J (S + 4) 12) (by rw [hf S (by simp <;> omega)]; exact hsd) rfl) mv_X9_sendE ml_X9_173 (xO.1 109 _ rfl).1 rfl rfl rfl (Nat.le_of_ble_eq_true rfl) (hrm (rm := { frames := 0, cells := 0, slots := 0, locals := 0 }) hZ ⟨Nat.le_of_ble_eq_true rfl, Nat.le_of_ble_eq_true rfl⟩) (hcs hZ ⟨Nat.le_of_ble_eq_true rfl, Nat.le_of_ble_eq_true rfl⟩) dX9_send_59 (fun v G' hp => ?_)
          obtain ⟨rfl, JE, LE, QE, rfl, q1, q2, q3, q4, q5, q6, q7, q8, q9⟩ := hp
          have g0 : sdT sd sec pub ha (tk nx k) (sdK sd sec pub ha (tk nx) σ k) = (opE sd (sdK sd sec pub ha (tk nx) σ k).1, lay (sdK sd sec pub ha (tk nx) σ k).2.1 (sdK sd sec pub ha (tk nx) σ k).2.2 (pubF (secF sd ((sdK sd sec pub ha (tk nx) σ k).1 7 12 + nI 1))), (sdK sd sec pub ha (tk nx) σ k).2.2 + 32) := by unfold sdT; rw [if_pos c53]
          have n1 : stE (sdK sd sec pub ha (tk nx) σ (k + 1)).1 JE (S + 4) := by show stE (sdT sd sec pub ha (tk nx k) (sdK sd sec pub ha (tk nx) σ k)).1 JE (S + 4); rw [g0]; exact hE.e q1 q5 q6 q7 (by intro k h1 h2 h3; simp; omega)
          have n2 : JE 105 1 = nI (sdK sd sec pub ha (tk nx) σ (k + 1)).2.2 := by show _ = nI (sdT sd sec pub ha (tk nx k) (sdK sd sec pub ha (tk nx) σ k)).2.2; rw [g0, q4]; simp [upd]
          have n3 : ∀ j, j < (sdK sd sec pub ha (tk nx) σ (k + 1)).2.2 → JE 106 j = (sdK sd sec pub ha (tk nx) σ (k + 1)).2.1 j := by show ∀ j, j < (sdT sd sec pub ha (tk nx k) (sdK sd sec pub ha (tk nx) σ k)).2.2 → JE 106 j = (sdT sd sec pub ha (tk nx k) (sdK sd sec pub ha (tk nx) σ k)).2.1 j; rw [g0]; exact lay_s (fun j hj => (q3 j hj).trans (h6 j hj)) (fun j hj => by rw [q2 j hj, hE.2 12 (by decide) (by decide)])
          have n4 : fx [105, 106, 111, 112, 113, 115, 116, 117, 118, 119, 120, 122, 133, 134, 135, 136, 141, 142, 152, S + 4, S + 4 + 1 + 0, S + 4 + 1 + 1, S + 4 + 1 + 2, S + 4 + 1 + 3, S + 4 + 1 + 4] I JE := hf.tr q7 (by simp)
          have n5 : fr121 R QE := fr121.tr hr q8
          have n6 := q9
          show hX z 0 0 (T, JE, LE, QE, A) [(7, .int (nI (tk nx k))), (6, .int (nI k)), (5, .int (nI (sz nx))), (4, .ref (A (S + 4))), (0, .ref (A 109)), (1, .ref (A S)), (2, .ref (A 103)), (3, .ref (A 105))] 62 []
          refine x_goto (tgt := 96) C dX9_send_62 (by decide) ?_
          refine x_iinc (v := nI (k + 1)) (lv' := [(6, .int (nI (k + 1))), (7, .int (nI (tk nx k))), (5, .int (nI (sz nx))), (4, .ref (A (S + 4))), (0, .ref (A 109)), (1, .ref (A S)), (2, .ref (A 103)), (3, .ref (A 105))]) C dX9_send_96 1 rfl (nI_inc 1) (Nat.lt_of_lt_of_eq (by decide) hN.symm) rfl ?_
          refine x_goto (tgt := 28) C dX9_send_99 (by decide) ?_
          refine x_sub (lv' := _) [0, 2, 3, 4, 5, 6, 7] rfl ?_
          exact ih28 (k + 1) JE LE QE (by omega) (by omega) n1 n2 n3 n4 n5 n6
  refine x_sub (lv' := _) [0, 1, 2, 3, 4, 5, 6] rfl ?_
  exact L28 _ 0 I1 L R (Nat.lt_succ_self _) (Nat.zero_le _) (hσ.fr (S := [105]) (by rw [eI1]; exact fx.rf.up (by simp)) (by intro k hk; simp; omega)) (by rw [eI1, va_up_same]; simp [upd]; rfl) (fun j hj => absurd hj (Nat.not_lt_zero j)) f_I1 fr121.rf ⟨cp, cq, cr, cs, h4⟩

