/-! ===== the model: writesToken, write ===== -/
set_option maxHeartbeats 4000000 in
set_option maxRecDepth 100000 in
theorem ok_X11_writesToken {l : Launch} {a0 : Nat} {D : va_G} {sa : Nat → Nat} {T : Nat → Option hKd} {I : Nat → Nat → Int32} {L : Nat → Nat → Int64} {R : Nat → Nat → Option Nat} {A : Nat → Nat} (mO : isM T R A a0) (hc : shC I) (s : Nat) (hs5 : s < 5) (h13 : h13Z I) (σ : sgT) (W : Nat → Int32) (w : Nat) (hE : mdE σ I s false) (hb : bS σ) (hw : w ≤ 80) (hl : ∀ j, j < w → I 57 j = W j) (ha : Nat) (hha : I 35 s = nI ha) (ha2 : ha < 2) (sd : Int32) (hsd : I 38 s = sd) (sec pub : Nat → Int32) (hsec : mR I 51 s sec) (t : Nat) (ht5 : t ≤ 5) (hpub : t = 1 → ∀ j, j < 32 → pub j = pubF sec j) (hx : 2 ≤ t → xEb t ha = false → σ 7 9 = nI 1) : hM l a0 D sa yX11_writesToken cX11_writesToken 4 (some .int) { frames := 6, cells := 0, slots := 0, locals := 152 } [.ref (A 63), .int (nI s), .int (nI t), .int (nI w)] (T, I, L, R, A) (fun r G' => r = some (.int (nI (sdT sd sec pub ha t (σ, W, w)).2.2)) ∧ ∃ I' L', G' = (T, I', L', R, A) ∧ mdE (sdT sd sec pub ha t (σ, W, w)).1 I' s false ∧ (∀ j, j < (sdT sd sec pub ha t (σ, W, w)).2.2 → I' 57 j = (sdT sd sec pub ha t (σ, W, w)).2.1 j) ∧ mF 5 s I I') := by
  refine hM.of (by decide +kernel) (Nat.le_of_ble_eq_true rfl) ?_
  intro z hl h0 hD hS hN C E
  subst hl; subst h0; subst hD; subst hS
  have C : hC z RX11 cX11_writesToken := C
  have hZ := E.2.2.2.1
  show hX z 0 0 (T, I, L, R, A) [(0, .ref (A 63)), (1, .int (nI s)), (2, .int (nI t)), (3, .int (nI w))] 0 []
  refine x_iload_n C dX11_writesToken_0 2 rfl rfl ?_
  refine x_if_neN (tgt := 74) C (by omega) dX11_writesToken_1 (by decide) (fun c1 => ?_) (fun c1 => ?_)
  · refine x_iload_n C dX11_writesToken_74 2 rfl rfl ?_
    refine x_iconst (v := nI 1) C dX11_writesToken_75 (by decide +kernel) ?_
    refine x_icmp_neN (tgt := 111) C (by omega) (by omega) dX11_writesToken_76 (by decide) (fun c76 => ?_) (fun c76 => ?_)
    · refine x_aload_n C dX11_writesToken_111 0 rfl rfl ?_
      refine x_iload_n C dX11_writesToken_112 1 rfl rfl ?_
      refine x_iload_n C dX11_writesToken_113 2 rfl rfl ?_
      refine x_callV C (ok_X11_shares mO s hs5 ha t hha ha2 ⟨by omega, ht5⟩ (fun j hj => by rw [hE.2.2.2.2.2.1 j hj]; exact hb.2.1 j hj) (fun h j hj => by rw [hE.2.2.2.2.2.2.1 (hx (by omega) h) j hj]; exact hb.2.2.1 j hj)) mv_X11_shares ml_X11_437 mO.1 rfl rfl rfl (Nat.le_of_ble_eq_true rfl) (hrm (rm := { frames := 0, cells := 0, slots := 0, locals := 0 }) hZ ⟨Nat.le_of_ble_eq_true rfl, Nat.le_of_ble_eq_true rfl⟩) (hcs hZ ⟨Nat.le_of_ble_eq_true rfl, Nat.le_of_ble_eq_true rfl⟩) dX11_writesToken_114 (fun v G' hp => ?_)
      obtain ⟨rfl, J3, L3, rfl, d1, d2⟩ := hp
      have F3 : fmS [12, 62] I J3 := fmS.of d2 (by decide)
      have d3 : ∀ i, i < 32 → J3 62 i = dhS sec ha t σ i := fun i hi => by rw [d1 i hi]; unfold dhS; refine congrFun (dhF_cg (fun j hj => ?_) (fun j hj => ?_)) i; (· by_cases hz : oEb t ha = true <;> simp only [hz, if_true, if_false, Bool.false_eq_true] <;> first | exact hE.2.2.2.2.1 j hj | exact hsec j hj); (· show byt _ = byt _; congr 1; by_cases hz : xEb t ha = true; (· simp only [hz, if_true]; exact hE.2.2.2.2.2.1 j hj); (· have hz2 := Bool.eq_false_iff.mpr hz; simp only [hz2, if_false, Bool.false_eq_true]; exact hE.2.2.2.2.2.2.1 (hx (by omega) hz2) j hj))
      show hX z 0 0 (T, J3, L3, R, A) [(0, .ref (A 63)), (1, .int (nI s)), (2, .int (nI t)), (3, .int (nI w))] 117 []
      refine x_aload_n C dX11_writesToken_117 0 rfl rfl ?_
      refine x_iload_n C dX11_writesToken_118 1 rfl rfl ?_
      refine x_callV C (ok_X11_mixKey mO (F3.c (by decide) (by decide) hc) s hs5) mv_X11_mixKey ml_X11_440 mO.1 rfl rfl rfl (Nat.le_of_ble_eq_true rfl) (hrm (rm := { frames := 0, cells := 0, slots := 0, locals := 0 }) hZ ⟨Nat.le_of_ble_eq_true rfl, Nat.le_of_ble_eq_true rfl⟩) (hcs hZ ⟨Nat.le_of_ble_eq_true rfl, Nat.le_of_ble_eq_true rfl⟩) dX11_writesToken_119 (fun v G' hp => ?_)
      obtain ⟨rfl, J4, rfl, q1, q2, q3, q4, q5⟩ := hp
      show hX z 0 0 (T, J4, L3, R, A) [(0, .ref (A 63)), (1, .int (nI s)), (2, .int (nI t)), (3, .int (nI w))] 122 []
      refine x_iload_n C dX11_writesToken_122 3 rfl rfl ?_
      exact x_iret C E (Nat.le_of_ble_eq_true rfl) (Nat.le_of_ble_eq_true rfl) dX11_writesToken_123 (by
          have g0 : (sdT sd sec pub ha t (σ, W, w)) = (opD sec ha t σ, W, w) := by unfold sdT; rw [if_neg c1, if_neg c76]
          have w47 : wRow I J4 47 s (key1 (σ 0) (dhS sec ha t σ) 32) := by
            rw [← key1_cg (fun i hi => (show J3 47 (32 * s + i) = σ 0 i by rw [F3.o 47 (by decide) (by decide)]; exact hE.1 i hi)) d3]
            exact q1.fr (F3.o 47 (by decide) (by decide))
          have w49 : wRow I J4 49 s (key2 (σ 0) (dhS sec ha t σ) 32) := by
            rw [← key2_cg (fun i hi => (show J3 47 (32 * s + i) = σ 0 i by rw [F3.o 47 (by decide) (by decide)]; exact hE.1 i hi)) d3]
            exact q2.fr (F3.o 49 (by decide) (by decide))
          have F4 : fmS [0, 2, 3, 6, 7, 8, 9, 12, 42, 43, 47, 49, 62] I J4 := (F3.w (by simp)).t q5 (by simp)
          have g42 : J4 42 = upd (I 42) s (nI 1) := by rw [q3, F3.o 42 (by decide) (by decide)]
          have g43 : J4 43 = upd (I 43) s (nI 0) := by rw [q4, F3.o 43 (by decide) (by decide)]
          rw [g0]
          refine ⟨rfl, J4, L3, rfl, ?_, ?_, ?_⟩
          · exact hE.d w47.1 w49.1 (by rw [g42]; simp [upd, opD, sFl, sgR]) (by rw [g43]; simp [upd, opD, sFl, sgR]) (fun q h1 h2 => by intros; exact F4.o q (by simp; omega) (by omega))
          · intro j hj; rw [q5.o 57 (by decide) (by decide), F3.o 57 (by decide) (by decide)]; exact hl j hj
          · refine mF.fm F4 (by decide) (h13Z.o (F4.o 13 (by decide) (by decide))) (fun q h1 h2 h3 => ?_)
            simp at h1
            rcases (show q = 42 ∨ q = 43 ∨ q = 47 ∨ q = 49 by omega) with rfl | rfl | rfl | rfl
            · exact sdO.fld g42 (by decide)
            · exact sdO.fld g43 (by decide)
            · exact sdO.row w47 (by decide)
            · exact sdO.row w49 (by decide))
    · refine x_aload_n C dX11_writesToken_79 0 rfl rfl ?_
      refine x_aload_n C dX11_writesToken_80 0 rfl rfl ?_
      refine x_getrN C fl_X11_228 mO.1 rfl (mO.2.2 51 _ rfl).1 dX11_writesToken_81 ?_
      refine x_bipush (v := nI 32) C dX11_writesToken_84 (by decide +kernel) ?_
      refine x_iload_n C dX11_writesToken_86 1 rfl rfl ?_
      refine x_imulN C dX11_writesToken_87 ?_
      refine x_aload_n C dX11_writesToken_88 0 rfl rfl ?_
      refine x_getrN C fl_X11_243 mO.1 rfl (mO.2.2 57 _ rfl).1 dX11_writesToken_89 ?_
      refine x_iload_n C dX11_writesToken_92 3 rfl rfl ?_
      refine x_callV C (ok_X11_publicOf mO 51 160 (32 * s) 57 400 w (mO.2.2 51 _ rfl).2.1 (by decide) (by omega) (by decide) (by decide) (mO.2.2 57 _ rfl).2.1 (mO.2.2 57 _ rfl).2.2 (by decide) (by omega) (by decide) h13) mv_X11_publicOf ml_X11_398 mO.1 rfl rfl rfl (Nat.le_of_ble_eq_true rfl) (hrm (rm := { frames := 0, cells := 0, slots := 0, locals := 0 }) hZ ⟨Nat.le_of_ble_eq_true rfl, Nat.le_of_ble_eq_true rfl⟩) (hcs hZ ⟨Nat.le_of_ble_eq_true rfl, Nat.le_of_ble_eq_true rfl⟩) dX11_writesToken_93 (fun v G' hp => ?_)
      obtain ⟨rfl, J3, L3, rfl, p1, p2, p3⟩ := hp
      have x1 : ∀ j, j < 32 → J3 57 (w + j) = pub j := fun j hj => by rw [p1]; show (if w ≤ w + j ∧ w + j < w + 32 then pubF _ (w + j - w) else _) = _; rw [if_pos (by omega), show w + j - w = j by omega, hpub c76 j hj]; exact pub_cong (fun i hi => hsec i hi) j
      have x0 : ∀ j, j < w → J3 57 j = W j := fun j hj => by rw [p1]; show (if w ≤ j ∧ j < w + 32 then _ else I 57 j) = _; rw [if_neg (by omega)]; exact hl j hj
      have F3 : fmS [12, 13, 57] I J3 := fmS.of p3 (by decide)
      show hX z 0 0 (T, J3, L3, R, A) [(0, .ref (A 63)), (1, .int (nI s)), (2, .int (nI t)), (3, .int (nI w))] 96 []
      refine x_iload_n C dX11_writesToken_96 3 rfl rfl ?_
      refine x_aload_n C dX11_writesToken_97 0 rfl rfl ?_
      refine x_iload_n C dX11_writesToken_98 1 rfl rfl ?_
      refine x_aload_n C dX11_writesToken_99 0 rfl rfl ?_
      refine x_getrN C fl_X11_243 mO.1 rfl (mO.2.2 57 _ rfl).1 dX11_writesToken_100 ?_
      refine x_iload_n C dX11_writesToken_103 3 rfl rfl ?_
      refine x_bipush (v := nI 32) C dX11_writesToken_104 (by decide +kernel) ?_
      refine x_callV C (ok_X11_seal mO (F3.c (by decide) (by decide) hc) s hs5 (hkS σ) (σ 7 10) (by rw [F3.o 42 (by decide) (by decide), hE.2.2.2.2.2.2.2.1.1]; exact hkS_b hb) (by rw [F3.o 43 (by decide) (by decide)]; exact hE.2.2.2.2.2.2.2.1.2.2.2.1) (fun j hj => by rw [F3.o 48 (by decide) (by decide), hE.2.1 j hj]; exact hb.1 j hj) w 32 (by omega) (by decide) (fun j hj => by rw [x1 j hj, hpub c76 j hj]; exact byt_pub _ _)) mv_X11_seal ml_X11_433 mO.1 rfl rfl rfl (Nat.le_of_ble_eq_true rfl) (hrm (rm := { frames := 0, cells := 0, slots := 0, locals := 0 }) hZ ⟨Nat.le_of_ble_eq_true rfl, Nat.le_of_ble_eq_true rfl⟩) (hcs hZ ⟨Nat.le_of_ble_eq_true rfl, Nat.le_of_ble_eq_true rfl⟩) dX11_writesToken_106 (fun v G' hp => ?_)
      obtain ⟨rfl, J4, rfl, q1, q2, q3, q4, q5⟩ := hp
      show hX z 0 0 (T, J4, L3, R, A) [(0, .ref (A 63)), (1, .int (nI s)), (2, .int (nI t)), (3, .int (nI w))] 109 [.int (nI (slN (hkS σ) 32)), .int (nI w)]
      refine x_iaddN C dX11_writesToken_109 ?_
      exact x_iret C E (Nat.le_of_ble_eq_true rfl) (Nat.le_of_ble_eq_true rfl) dX11_writesToken_110 (by
          have g0 : (sdT sd sec pub ha t (σ, W, w)) = (opS σ pub 32, lay W w (selF σ pub 32), w + slN (hkS σ) 32) := by unfold sdT; rw [if_neg c1, if_pos c76]
          have es : ∀ j, j < slN (hkS σ) 32 → slF (hkS σ) (fun i => J3 49 (32 * s + i)) (σ 7 10) 32 (fun j => byt (J3 48 (32 * s + j))) (fun j => J3 57 (w + j)) 32 j = selF σ pub 32 j := fun j hj => slF_cg (fun i hi => by rw [F3.o 49 (by decide) (by decide)]; exact hE.2.2.1 i hi) (fun i hi => by show byt _ = byt _; rw [F3.o 48 (by decide) (by decide), hE.2.1 i hi]) (fun i hi => x1 i hi) j hj
          have w48 : wRow I J4 48 s (mixF (σ 1) (selF σ pub 32) (slN (hkS σ) 32)) := by
            rw [← mixF_cg (fun i hi => (show J3 48 (32 * s + i) = σ 1 i by rw [F3.o 48 (by decide) (by decide)]; exact hE.2.1 i hi)) es]
            exact q3.fr (F3.o 48 (by decide) (by decide))
          have F4 : fmS [0, 2, 3, 12, 13, 14, 15, 16, 17, 18, 19, 20, 21, 22, 23, 43, 48, 57] I J4 := (F3.w (by simp)).t q5 (by simp)
          have g43 : J4 43 = upd (I 43) s (nxN σ) := by rw [q4, F3.o 43 (by decide) (by decide)]; rfl
          rw [g0]
          refine ⟨rfl, J4, L3, rfl, ?_, ?_, ?_⟩
          · exact hE.s w48.1 (by rw [g43]; simp [upd, opS, sFl, sgR]) (fun q h1 h2 => by intros; exact F4.o q (by simp; omega) (by omega))
          · exact lay_s (fun j hj => by rw [q2 j (Or.inl hj)]; exact x0 j hj) (fun j hj => (q1 j hj).trans (es j hj))
          · refine mF.fm F4 (by decide) (fun _ => h13Z.o (q5.o 13 (by decide) (by decide)) p2) (fun q h1 h2 h3 => ?_)
            simp at h1
            rcases (show q = 43 ∨ q = 48 by omega) with rfl | rfl
            · exact sdO.fld g43 (by decide)
            · exact sdO.row w48 (by decide))
  · refine x_aload_n C dX11_writesToken_4 0 rfl rfl ?_
    refine x_aload_n C dX11_writesToken_5 0 rfl rfl ?_
    refine x_getrN C fl_X11_189 mO.1 rfl (mO.2.2 38 _ rfl).1 dX11_writesToken_6 ?_
    refine x_iload_n C dX11_writesToken_9 1 rfl rfl ?_
    refine x_ialdN C (mO.2.2 38 _ rfl).2.1 (by omega) (by omega) dX11_writesToken_10 ?_
    refine x_eqi (y := sd) hsd ?_
    refine x_aload_n C dX11_writesToken_11 0 rfl rfl ?_
    refine x_getrN C fl_X11_192 mO.1 rfl (mO.2.2 39 _ rfl).1 dX11_writesToken_12 ?_
    refine x_iload_n C dX11_writesToken_15 1 rfl rfl ?_
    refine x_ialdN C (mO.2.2 39 _ rfl).2.1 (by omega) (by omega) dX11_writesToken_16 ?_
    refine x_eqi (y := σ 7 12) hE.2.2.2.2.2.2.2.1.2.2.2.2.1 ?_
    refine x_iconst (v := nI 1) C dX11_writesToken_17 (by decide +kernel) ?_
    refine x_iadd C dX11_writesToken_18 ?_
    refine x_aload_n C dX11_writesToken_19 0 rfl rfl ?_
    refine x_getrN C fl_X11_231 mO.1 rfl (mO.2.2 52 _ rfl).1 dX11_writesToken_20 ?_
    refine x_bipush (v := nI 32) C dX11_writesToken_23 (by decide +kernel) ?_
    refine x_iload_n C dX11_writesToken_25 1 rfl rfl ?_
    refine x_imulN C dX11_writesToken_26 ?_
    refine x_callV C (ok_X11_secret mO sd (σ 7 12 + nI 1) 52 160 (32 * s) hc.1 hc.2 (mO.2.2 52 _ rfl).2.1 (by decide) (mO.2.2 52 _ rfl).2.2 (by omega) (by decide)) mv_X11_secret ml_X11_394 mO.1 rfl rfl rfl (Nat.le_of_ble_eq_true rfl) (hrm (rm := { frames := 0, cells := 0, slots := 0, locals := 0 }) hZ ⟨Nat.le_of_ble_eq_true rfl, Nat.le_of_ble_eq_true rfl⟩) (hcs hZ ⟨Nat.le_of_ble_eq_true rfl, Nat.le_of_ble_eq_true rfl⟩) dX11_writesToken_27 (fun v G' hp => ?_)
    obtain ⟨rfl, J1, rfl, s1, s2⟩ := hp
    have w52 : wRow I J1 52 s (secF sd (σ 7 12 + nI 1)) := wRow.mx s1 (fun _ _ => rfl)
    show hX z 0 0 (T, J1, L, R, A) [(0, .ref (A 63)), (1, .int (nI s)), (2, .int (nI t)), (3, .int (nI w))] 30 []
    refine x_aload_n C dX11_writesToken_30 0 rfl rfl ?_
    refine x_getrN C fl_X11_192 mO.1 rfl (mO.2.2 39 _ rfl).1 dX11_writesToken_31 ?_
    refine x_iload_n C dX11_writesToken_34 1 rfl rfl ?_
    refine x_dup2 C dX11_writesToken_35 rfl rfl ?_
    refine x_ialdN C (mO.2.2 39 _ rfl).2.1 (by omega) (by omega) dX11_writesToken_36 ?_
    refine x_eqi (y := σ 7 12) (by rw [s2.o 39 (by decide) (by decide)]; exact hE.2.2.2.2.2.2.2.1.2.2.2.2.1) ?_
    refine x_iconst (v := nI 1) C dX11_writesToken_37 (by decide +kernel) ?_
    refine x_iadd C dX11_writesToken_38 ?_
    refine x_iastN C (mO.2.2 39 _ rfl).2.1 (mO.2.2 39 _ rfl).2.2 (by omega) (by omega) dX11_writesToken_39 (fun I1 eI1 => ?_)
    refine x_aload_n C dX11_writesToken_40 0 rfl rfl ?_
    refine x_aload_n C dX11_writesToken_41 0 rfl rfl ?_
    refine x_getrN C fl_X11_231 mO.1 rfl (mO.2.2 52 _ rfl).1 dX11_writesToken_42 ?_
    refine x_bipush (v := nI 32) C dX11_writesToken_45 (by decide +kernel) ?_
    refine x_iload_n C dX11_writesToken_47 1 rfl rfl ?_
    refine x_imulN C dX11_writesToken_48 ?_
    refine x_aload_n C dX11_writesToken_49 0 rfl rfl ?_
    refine x_getrN C fl_X11_243 mO.1 rfl (mO.2.2 57 _ rfl).1 dX11_writesToken_50 ?_
    refine x_iload_n C dX11_writesToken_53 3 rfl rfl ?_
    refine x_callV C (ok_X11_publicOf mO 52 160 (32 * s) 57 400 w (mO.2.2 52 _ rfl).2.1 (by decide) (by omega) (by decide) (by decide) (mO.2.2 57 _ rfl).2.1 (mO.2.2 57 _ rfl).2.2 (by decide) (by omega) (by decide) (h13Z.o (by rw [eI1, va_up_other _ _ (by decide), s2.o 13 (by decide) (by decide)]) h13)) mv_X11_publicOf ml_X11_398 mO.1 rfl rfl rfl (Nat.le_of_ble_eq_true rfl) (hrm (rm := { frames := 0, cells := 0, slots := 0, locals := 0 }) hZ ⟨Nat.le_of_ble_eq_true rfl, Nat.le_of_ble_eq_true rfl⟩) (hcs hZ ⟨Nat.le_of_ble_eq_true rfl, Nat.le_of_ble_eq_true rfl⟩) dX11_writesToken_54 (fun v G' hp => ?_)
    obtain ⟨rfl, J3, L3, rfl, p1, p2, p3⟩ := hp
    have x1 : ∀ j, j < 32 → J3 57 (w + j) = pubF (secF sd (σ 7 12 + nI 1)) j := fun j hj => by rw [p1]; show (if w ≤ w + j ∧ w + j < w + 32 then pubF _ (w + j - w) else _) = _; rw [if_pos (by omega), show w + j - w = j by omega]; exact pub_cong (fun i hi => by rw [eI1, va_up_other _ _ (by decide)]; exact w52.1 i hi) j
    have x0 : ∀ j, j < w → J3 57 j = W j := fun j hj => by rw [p1]; show (if w ≤ j ∧ j < w + 32 then _ else I1 57 j) = _; rw [if_neg (by omega), eI1, va_up_other _ _ (by decide), s2.o 57 (by decide) (by decide)]; exact hl j hj
    have F3 : fmS [0, 2, 3, 12, 13, 39, 48, 52, 57] I J3 := (show fmS [0, 2, 3, 12, 13, 39, 48, 52, 57] I I1 from by rw [eI1]; exact (s2.w (by simp)).u (by decide) (by decide)).t (fmS.of p3 (by decide)) (by simp)
    show hX z 0 0 (T, J3, L3, R, A) [(0, .ref (A 63)), (1, .int (nI s)), (2, .int (nI t)), (3, .int (nI w))] 57 []
    refine x_aload_n C dX11_writesToken_57 0 rfl rfl ?_
    refine x_iload_n C dX11_writesToken_58 1 rfl rfl ?_
    refine x_aload_n C dX11_writesToken_59 0 rfl rfl ?_
    refine x_getrN C fl_X11_243 mO.1 rfl (mO.2.2 57 _ rfl).1 dX11_writesToken_60 ?_
    refine x_iload_n C dX11_writesToken_63 3 rfl rfl ?_
    refine x_bipush (v := nI 32) C dX11_writesToken_64 (by decide +kernel) ?_
    refine x_callV C (ok_X11_mixHash mO s 57 400 w 32 (F3.c (by decide) (by decide) hc).1 (F3.c (by decide) (by decide) hc).2 hs5 (mO.2.2 57 _ rfl).2.1 (by decide) (by omega) (by decide) (by decide) (by decide)) mv_X11_mixHash ml_X11_404 mO.1 rfl rfl rfl (Nat.le_of_ble_eq_true rfl) (hrm (rm := { frames := 0, cells := 0, slots := 0, locals := 0 }) hZ ⟨Nat.le_of_ble_eq_true rfl, Nat.le_of_ble_eq_true rfl⟩) (hcs hZ ⟨Nat.le_of_ble_eq_true rfl, Nat.le_of_ble_eq_true rfl⟩) dX11_writesToken_66 (fun v G' hp => ?_)
    obtain ⟨rfl, J4, rfl, m1, m2⟩ := hp
    show hX z 0 0 (T, J4, L3, R, A) [(0, .ref (A 63)), (1, .int (nI s)), (2, .int (nI t)), (3, .int (nI w))] 69 []
    refine x_iload_n C dX11_writesToken_69 3 rfl rfl ?_
    refine x_bipush (v := nI 32) C dX11_writesToken_70 (by decide +kernel) ?_
    refine x_iaddN C dX11_writesToken_72 ?_
    exact x_iret C E (Nat.le_of_ble_eq_true rfl) (Nat.le_of_ble_eq_true rfl) dX11_writesToken_73 (by
        have g0 : (sdT sd sec pub ha t (σ, W, w)) = (opE sd σ, lay W w (pubF (secF sd (σ 7 12 + nI 1))), w + 32) := by unfold sdT; rw [if_pos c1]
        have o48 : J3 48 = I 48 := by rw [p3 48 (by decide), eI1, va_up_other _ _ (by decide), s2.o 48 (by decide) (by decide)]
        have w48 : wRow I J4 48 s (mixF (σ 1) (pubF (secF sd (σ 7 12 + nI 1))) 32) := by
          refine (wRow.mx m1 (fun i hi => ?_)).fr o48
          exact congrFun (mixF_cg (fun i hi => by rw [o48]; exact hE.2.1 i hi) (fun i hi => x1 i hi)) i
        have F4 : fmS [0, 2, 3, 12, 13, 39, 48, 52, 57] I J4 := F3.t m2 (by simp)
        have g39 : J4 39 = upd (I 39) s (σ 7 12 + nI 1) := by rw [m2.o 39 (by decide) (by decide), p3 39 (by decide), eI1, va_up_same, s2.o 39 (by decide) (by decide)]
        have w52' : wRow I J4 52 s (secF sd (σ 7 12 + nI 1)) := w52.to (by rw [m2.o 52 (by decide) (by decide), p3 52 (by decide), eI1, va_up_other _ _ (by decide)])
        rw [g0]
        refine ⟨rfl, J4, L3, rfl, ?_, ?_, ?_⟩
        · exact hE.e w48.1 w52'.1 (by rw [g39]; simp [upd, opE, sFl, sgR]) (fun q h1 h2 => by intros; exact F4.o q (by simp; omega) (by omega))
        · exact lay_s (fun j hj => by rw [m2.o 57 (by decide) (by decide)]; exact x0 j hj) (fun j hj => by rw [m2.o 57 (by decide) (by decide)]; exact x1 j hj)
        · refine mF.fm F4 (by decide) (fun _ => h13Z.o (m2.o 13 (by decide) (by decide)) p2) (fun q h1 h2 h3 => ?_)
          simp at h1
          rcases (show q = 39 ∨ q = 48 ∨ q = 52 by omega) with rfl | rfl | rfl
          · exact sdO.fld g39 (by decide)
          · exact sdO.row w48 (by decide)
          · exact sdO.row w52' (by decide))

