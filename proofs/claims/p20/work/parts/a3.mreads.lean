/-! ===== the model: reads, read ===== -/
set_option maxHeartbeats 4000000 in
set_option maxRecDepth 100000 in
theorem ok_X11_reads {l : Launch} {a0 : Nat} {D : va_G} {sa : Nat → Nat} {T : Nat → Option hKd} {I : Nat → Nat → Int32} {L : Nat → Nat → Int64} {R : Nat → Nat → Option Nat} {A : Nat → Nat} (mO : isM T R A a0) (hc : shC I) (s : Nat) (hs5 : s < 5) (h13 : h13Z I) (p : Nat) (hp8 : p < 8) (kn : Nat → Bool) (ms : Nat) (sz : Nat → Nat) (tk : Nat → Nat → Nat) (hp : mdP I p kn ms sz tk) (hp34 : I 34 s = nI p) (σ : sgT) (nx : Nat) (hE : mdE σ I s false) (hb : bS σ) (hnx : σ 7 13 = nI nx) (hn6 : nx ≤ ms) (ha : Nat) (hha : I 35 s = nI ha) (ha2 : ha < 2) (sec : Nat → Int32) (hsec : mR I 51 s sec) (ln : Nat) (hln : I 63 58 = nI ln) (hl160 : ln ≤ 160) (lt : Nat → Int32) (hlt : ∀ j, j < ln → I 57 j = lt j) (hlb : ∀ j, j < ln → byt (lt j) < 256) (hnm : nx < ms) (hx : ∀ k τ a, k < sz nx → rdK sec ha lt ln (tk nx) σ k = some (τ, a) → 2 ≤ tk nx k → xEb (tk nx k) ha = false → τ 7 9 = nI 1)  : hM l a0 D sa yX11_reads cX11_reads 5 (some .int) { frames := 7, cells := 0, slots := 0, locals := 176 } [.ref (A 63), .int (nI s)] (T, I, L, R, A) (fun r G' => ∃ I' L', G' = (T, I', L', R, A) ∧ ((rdM sec ha ms nx (tk nx) (sz nx) lt ln σ = none ∧ (r = some (.int (-5)) ∨ r = some (.int (-6))) ∧ mF 5 s I I' ∧ I' 57 = I 57 ∧ I' 59 = I 59) ∨ (∃ M, rdM sec ha ms nx (tk nx) (sz nx) lt ln σ = some M ∧ r = some (.int (nI M.2.2)) ∧ M.2.2 ≤ 160 ∧ mdE M.1 I' s (decide (ms ≤ nx + 1)) ∧ (∀ j, j < M.2.2 → I' 59 j = M.2.1 j) ∧ I' 63 60 = nI M.2.2 ∧ I' 57 = I 57 ∧ mFr 5 s I I'))) := by
  refine hM.of (by decide +kernel) (Nat.le_of_ble_eq_true rfl) ?_
  intro z hl h0 hD hS hN C E
  subst hl; subst h0; subst hD; subst hS
  have C : hC z RX11 cX11_reads := C
  have hZ := E.2.2.2.1
  show hX z 0 0 (T, I, L, R, A) [(0, .ref (A 63)), (1, .int (nI s))] 0 []
  have hm6 := hp.2.2.2.2.1
  have hz5 := hp.2.2.2.2.2.1 nx
  refine x_bipush (v := nI 6) C dX11_reads_0 (by decide +kernel) ?_
  refine x_aload_n C dX11_reads_2 0 rfl rfl ?_
  refine x_getrN C fl_X11_177 mO.1 rfl (mO.2.2 34 _ rfl).1 dX11_reads_3 ?_
  refine x_iload_n C dX11_reads_6 1 rfl rfl ?_
  refine x_ialdN C (mO.2.2 34 _ rfl).2.1 (by omega) (by omega) dX11_reads_7 ?_
  refine x_eqi (y := nI p) hp34 ?_
  refine x_imulN C dX11_reads_8 ?_
  refine x_aload_n C dX11_reads_9 0 rfl rfl ?_
  refine x_getrN C fl_X11_195 mO.1 rfl (mO.2.2 40 _ rfl).1 dX11_reads_10 ?_
  refine x_iload_n C dX11_reads_13 1 rfl rfl ?_
  refine x_ialdN C (mO.2.2 40 _ rfl).2.1 (by omega) (by omega) dX11_reads_14 ?_
  refine x_eqi (y := nI nx) (hE.2.2.2.2.2.2.2.1.2.2.2.2.2.trans hnx) ?_
  refine x_iaddN C dX11_reads_15 ?_
  refine x_istore_n (lv' := [(2, .int (nI (6 * p + nx))), (0, .ref (A 63)), (1, .int (nI s))]) C dX11_reads_16 rfl (Nat.lt_of_lt_of_eq (by decide) hN.symm) rfl ?_
  refine x_iconst (v := nI 0) C dX11_reads_17 (by decide +kernel) ?_
  refine x_istore_n (lv' := [(3, .int (nI 0)), (2, .int (nI (6 * p + nx))), (0, .ref (A 63)), (1, .int (nI s))]) C dX11_reads_18 rfl (Nat.lt_of_lt_of_eq (by decide) hN.symm) rfl ?_
  refine x_iconst (v := nI 0) C dX11_reads_19 (by decide +kernel) ?_
  refine x_istore (lv' := [(4, .int (nI 0)), (3, .int (nI 0)), (2, .int (nI (6 * p + nx))), (0, .ref (A 63)), (1, .int (nI s))]) C dX11_reads_20 (Nat.lt_of_lt_of_eq (by decide) hN.symm) rfl ?_
  have L22 : ∀ (fuel_ : Nat) (a : Nat) (k : Nat) (J : Nat → Nat → Int32) (K : Nat → Nat → Int64) (τ : sgT), sz nx - k < fuel_ → (k ≤ sz nx) → (rdK sec ha lt ln (tk nx) σ k = some (τ, a)) → (mdE τ J s false) → (mF 5 s I J) → (J 57 = I 57) → (J 59 = I 59) → (a ≤ ln) → hX z 0 0 (T, J, K, R, A) [(4, .int (nI k)), (3, .int (nI a)), (2, .int (nI (6 * p + nx))), (0, .ref (A 63)), (1, .int (nI s))] 22 [] := by
    intro fuel_
    induction fuel_ with
    | zero => intro a k J K τ hmz; exact absurd hmz (Nat.not_lt_zero _)
    | succ fuel_ ih22 =>
      intro a k J K τ hmz hk hM hG hF hl57 hl59 hal
      have hbt : bS τ := rdK_b hb hlb k _ hM
      have h13t : τ 7 13 = σ 7 13 := rdK_7 (by omega) k _ hM
      refine x_iload C dX11_reads_22 0 rfl ?_
      refine x_aload_n C dX11_reads_24 3 rfl rfl ?_
      refine x_getrN C fl_X11_159 mO.1 rfl (mO.2.2 27 _ rfl).1 dX11_reads_25 ?_
      refine x_iload_n C dX11_reads_28 2 rfl rfl ?_
      refine x_ialdN C (mO.2.2 27 _ rfl).2.1 (by omega) (by omega) dX11_reads_29 ?_
      refine x_eqi (y := nI (sz nx)) (by rw [hF.o 27 (by decide) (by decide)]; exact hp.2.2.1 nx hnm) ?_
      refine x_icmp_geN (tgt := 61) C (by omega) (by omega) dX11_reads_30 (by decide) (fun c30 => ?_) (fun c30 => ?_)
      · refine x_iload_n C dX11_reads_61 1 rfl rfl ?_
        refine x_if_geN (tgt := 67) C (by omega) dX11_reads_62 (by decide) ?_
        refine x_aload_n C dX11_reads_67 3 rfl rfl ?_
        refine x_getrN C fl_X11_201 mO.1 rfl (mO.2.2 42 _ rfl).1 dX11_reads_68 ?_
        refine x_iload_n C dX11_reads_71 4 rfl rfl ?_
        refine x_zaldN C (mO.2.2 42 _ rfl).2.1 (by omega) (by omega) dX11_reads_72 ?_
        refine x_eqi (y := bI (hkS τ)) (hG.2.2.2.2.2.2.2.1.1.trans (hkS_b hbt)) ?_
        refine x_if_eq (tgt := 90) C dX11_reads_73 (by decide) (fun c73 => ?_) (fun c73 => ?_)
        · refine x_aload_n C dX11_reads_90 3 rfl rfl ?_
          refine x_iload_n C dX11_reads_91 4 rfl rfl ?_
          refine x_aload_n C dX11_reads_92 3 rfl rfl ?_
          refine x_getrN C fl_X11_243 mO.1 rfl (mO.2.2 57 _ rfl).1 dX11_reads_93 ?_
          refine x_iload_n C dX11_reads_96 1 rfl rfl ?_
          refine x_aload_n C dX11_reads_97 3 rfl rfl ?_
          refine x_getiN C fl_X11_450 mO.1 rfl dX11_reads_98 ?_
          refine x_eqi (y := nI ln) (by rw [hF.2.1 58 (by decide)]; exact hln) ?_
          refine x_iload_n C dX11_reads_101 1 rfl rfl ?_
          refine x_isubN C (by omega) dX11_reads_102 ?_
          refine x_aload_n C dX11_reads_103 3 rfl rfl ?_
          refine x_getrN C fl_X11_249 mO.1 rfl (mO.2.2 61 _ rfl).1 dX11_reads_104 ?_
          have h16 : hkS τ = true → 16 ≤ ln - a := fun h => by first | (have h1 := bI_F c73; rw [h1] at h; cases h) | omega
          have hg : ∀ j, j < ln - a → J 57 (a + j) = lt (a + j) := fun j hj => by rw [hl57]; exact hlt _ (by omega)
          refine x_callV C (ok_X11_open mO (hF.c hc) s hs5 (hkS τ) (τ 7 10) (hG.2.2.2.2.2.2.2.1.1.trans (hkS_b hbt)) hG.2.2.2.2.2.2.2.1.2.2.2.1 (fun j hj => by rw [hG.2.1 j hj]; exact hbt.1 j hj) a (ln - a) (by omega) (by omega) h16 (fun j hj => by rw [hg j hj]; exact hlb _ (by omega))) mv_X11_open ml_X11_453 mO.1 rfl rfl rfl (Nat.le_of_ble_eq_true rfl) (hrm (rm := { frames := 0, cells := 0, slots := 0, locals := 0 }) hZ ⟨Nat.le_of_ble_eq_true rfl, Nat.le_of_ble_eq_true rfl⟩) (hcs hZ ⟨Nat.le_of_ble_eq_true rfl, Nat.le_of_ble_eq_true rfl⟩) dX11_reads_107 (fun v G' hp => ?_)
          obtain ⟨J2, rfl, hq⟩ := hp
          rcases hq with ⟨rfl, oK, oT, q5⟩ | ⟨rfl, oT, ob, w48, g43, q5⟩
          · have oB : opnO τ (fun j => lt (a + j)) (ln - a) = false := Bool.eq_false_iff.mpr (fun h => oT ((opn_m (K := fun i => J 49 (32 * s + i)) (h := fun i => J 48 (32 * s + i)) (fun i hi => hG.2.2.1 i hi) (fun i hi => hG.2.1 i hi) rfl hg h16 oK).mpr (opnO_iff.mp h oK)))
            show hX z 0 0 (T, J2, K, R, A) [(4, .int (nI k)), (3, .int (nI a)), (2, .int (nI (6 * p + nx))), (0, .ref (A 63)), (1, .int (nI s))] 110 [.int (-6)]
            refine x_istore (lv' := [(4, .int (-6)), (3, .int (nI a)), (2, .int (nI (6 * p + nx))), (0, .ref (A 63)), (1, .int (nI s))]) C dX11_reads_110 (Nat.lt_of_lt_of_eq (by decide) hN.symm) rfl ?_
            refine x_iload C dX11_reads_112 0 rfl ?_
            refine x_bipush (v := (-6)) C dX11_reads_114 (by decide +kernel) ?_
            refine x_icmp_ne (tgt := 122) C dX11_reads_116 (by decide) (fun c116 => absurd c116 (by exact fun h => h rfl)) (fun c116 => ?_)
            refine x_bipush (v := (-6)) C dX11_reads_119 (by decide +kernel) ?_
            exact x_iret C E (Nat.le_of_ble_eq_true rfl) (Nat.le_of_ble_eq_true rfl) dX11_reads_121 (by
                  have ek : k = sz nx := by omega
                  subst ek
                  exact ⟨J2, K, rfl, Or.inl ⟨by rw [rdM_s hM]; exact rdE_0 oB, Or.inr rfl, hF.tr (mF.fm q5 (by decide) (h13Z.o (q5.o 13 (by decide) (by decide))) (by intro q h1 h2 h3; simp at h1; omega)), (q5.o 57 (by decide) (by decide)).trans hl57, (q5.o 59 (by decide) (by decide)).trans hl59⟩⟩)
          · have oB : opnO τ (fun j => lt (a + j)) (ln - a) = true := opnO_iff.mpr (fun h => (opn_m (K := fun i => J 49 (32 * s + i)) (h := fun i => J 48 (32 * s + i)) (fun i hi => hG.2.2.1 i hi) (fun i hi => hG.2.1 i hi) rfl hg h16 h).mp (oT h))
            have hon : opN (hkS τ) (ln - a) ≤ 160 := by unfold opN; split <;> omega
            have w48 : wRow J J2 48 s (mixF (τ 1) (fun j => lt (a + j)) (ln - a)) := by rw [← mixF_cg (fun i hi => hG.2.1 i hi) hg]; exact w48
            have g43 : J2 43 = upd (J 43) s (nxN τ) := g43
            have r1 : mdE (opR τ (fun j => lt (a + j)) (ln - a)) J2 s false := hG.r w48.1 (by rw [g43]; simp [upd, opR, sFl, sgR]) (fun q h1 h2 => by intros; exact q5.o q (by simp; omega) (by omega))
            have r2 : mF 5 s J J2 := mF.fm q5 (by decide) (h13Z.o (q5.o 13 (by decide) (by decide))) (by intro q h1 h2 h3; simp at h1; rcases (show q = 43 ∨ q = 48 by omega) with rfl | rfl; exact sdO.fld g43 (by decide); exact sdO.row w48 (by decide))
            have r3 := hF.tr r2
            show hX z 0 0 (T, J2, K, R, A) [(4, .int (nI k)), (3, .int (nI a)), (2, .int (nI (6 * p + nx))), (0, .ref (A 63)), (1, .int (nI s))] 110 [.int (nI (opN (hkS τ) (ln - a)))]
            refine x_istore (lv' := [(4, .int (nI (opN (hkS τ) (ln - a)))), (3, .int (nI a)), (2, .int (nI (6 * p + nx))), (0, .ref (A 63)), (1, .int (nI s))]) C dX11_reads_110 (Nat.lt_of_lt_of_eq (by decide) hN.symm) rfl ?_
            refine x_iload C dX11_reads_112 0 rfl ?_
            refine x_bipush (v := (-6)) C dX11_reads_114 (by decide +kernel) ?_
            refine x_icmp_ne (tgt := 122) C dX11_reads_116 (by decide) (fun c116 => ?_) (fun c116 => absurd c116 (by exact nI_n6 (by unfold opN; split <;> omega)))
            refine x_aload_n C dX11_reads_122 3 rfl rfl ?_
            refine x_getrN C fl_X11_249 mO.1 rfl (mO.2.2 61 _ rfl).1 dX11_reads_123 ?_
            refine x_iconst (v := nI 0) C dX11_reads_126 (by decide +kernel) ?_
            refine x_aload_n C dX11_reads_127 3 rfl rfl ?_
            refine x_getrN C fl_X11_246 mO.1 rfl (mO.2.2 59 _ rfl).1 dX11_reads_128 ?_
            refine x_iconst (v := nI 0) C dX11_reads_131 (by decide +kernel) ?_
            refine x_iload C dX11_reads_132 0 rfl ?_
            refine x_callS C (ok_X11_copy 61 59 (0) (0) (opN (hkS τ) (ln - a)) 400 400 (mO.2.2 61 _ rfl).2.1 (mO.2.2 59 _ rfl).2.1 (mO.2.2 59 _ rfl).2.2 (by omega) (by omega) (by decide) (by decide) (fun e => absurd e (by decide))) ms_X11_copy ml_X11_270 rfl rfl (Nat.le_of_ble_eq_true rfl) (hrm (rm := { frames := 0, cells := 0, slots := 0, locals := 0 }) hZ ⟨Nat.le_of_ble_eq_true rfl, Nat.le_of_ble_eq_true rfl⟩) (hcs hZ ⟨Nat.le_of_ble_eq_true rfl, Nat.le_of_ble_eq_true rfl⟩) dX11_reads_134 (fun v G' hp => ?_)
            obtain ⟨rfl, rfl⟩ := hp
            generalize eI1 : va_up J2 59 (fun j => if 0 ≤ j ∧ j < 0 + (opN (hkS τ) (ln - a)) then J2 61 (0 + (j - 0)) else J2 59 j) = I1
            have eI1 := eI1.symm
            show hX z 0 0 (T, I1, K, R, A) [(4, .int (nI (opN (hkS τ) (ln - a)))), (3, .int (nI a)), (2, .int (nI (6 * p + nx))), (0, .ref (A 63)), (1, .int (nI s))] 137 []
            refine x_aload_n C dX11_reads_137 3 rfl rfl ?_
            refine x_iload C dX11_reads_138 0 rfl ?_
            refine x_putiN C fl_X11_457 mO.1 mO.2.1 rfl dX11_reads_140 (fun I2 eI2 => ?_)
            refine x_aload_n C dX11_reads_143 3 rfl rfl ?_
            refine x_iload_n C dX11_reads_144 4 rfl rfl ?_
            have oe : ∀ q, q ≠ 63 → q ≠ 59 → I2 q = J2 q := fun q h1 h2 => by rw [eI2, va_up_other _ _ h1, eI1, va_up_other _ _ h2]
            refine x_callV C (ok_X11_ends mO (by unfold shC; rw [oe 4 (by decide) (by decide), oe 5 (by decide) (by decide)]; exact r3.c hc) s hs5 (opR τ (fun j => lt (a + j)) (ln - a)) (r1.u59 oe) nx (by rw [opR_7 (by decide), h13t]; exact hnx) p ms (by rw [oe 34 (by decide) (by decide), r3.o 34 (by decide) (by decide)]; exact hp34) hp8 (by rw [oe 26 (by decide) (by decide), r3.o 26 (by decide) (by decide)]; exact hp.2.1) hnm hm6 ha (by rw [oe 35 (by decide) (by decide), r3.o 35 (by decide) (by decide)]; exact hha) ha2) mv_X11_ends ml_X11_447 mO.1 rfl rfl rfl (Nat.le_of_ble_eq_true rfl) (hrm (rm := { frames := 0, cells := 0, slots := 0, locals := 0 }) hZ ⟨Nat.le_of_ble_eq_true rfl, Nat.le_of_ble_eq_true rfl⟩) (hcs hZ ⟨Nat.le_of_ble_eq_true rfl, Nat.le_of_ble_eq_true rfl⟩) dX11_reads_145 (fun v G' hp => ?_)
            obtain ⟨rfl, J5, rfl, z1, z2, z3, z4, z5⟩ := hp
            show hX z 0 0 (T, J5, K, R, A) [(4, .int (nI (opN (hkS τ) (ln - a)))), (3, .int (nI a)), (2, .int (nI (6 * p + nx))), (0, .ref (A 63)), (1, .int (nI s))] 148 []
            refine x_iload C dX11_reads_148 0 rfl ?_
            exact x_iret C E (Nat.le_of_ble_eq_true rfl) (Nat.le_of_ble_eq_true rfl) dX11_reads_150 (by
                have ek : k = sz nx := by omega
                subst ek
                have K0 : ∀ q, q ≠ 63 → q ≠ 59 → J5 q = va_up (va_up J5 59 (J2 59)) 63 (upd (J5 63) 60 (J2 63 60)) q := fun q h1 h2 => by rw [va_up_other _ _ h1, va_up_other _ _ h2]
                have m5 : mF 5 s J2 (va_up (va_up J5 59 (J2 59)) 63 (upd (J5 63) 60 (J2 63 60))) := by
                  refine ⟨fun q h1 h2 => ?_, fun j hj1 => ?_, fun h => ?_, fun q h1 h2 h3 => ?_⟩
                  · rw [va_up_other _ _ h2]
                    by_cases h3 : q = 59
                    · rw [h3, va_up_same]
                    · rw [va_up_other _ _ h3, z2.1 q h1 h2]; exact oe q h2 h3
                  · rw [va_up_same]; unfold upd
                    by_cases h6 : j = 60
                    · rw [if_pos h6, h6]
                    · rw [if_neg h6, z2.2.1 j hj1, eI2, va_up_same]; unfold upd; rw [if_neg h6, eI1, va_up_other _ _ (by decide)]
                  · refine h13Z.o (by rw [va_up_other _ _ (by decide), va_up_other _ _ (by decide)]) (z2.2.2.1 (h13Z.o (oe 13 (by decide) (by decide)) h))
                  · have e1 : va_up (va_up J5 59 (J2 59)) 63 (upd (J5 63) 60 (J2 63 60)) q = J5 q := by rw [va_up_other _ _ (by omega), va_up_other _ _ (by omega)]
                    have e2 := oe q (by omega) (by omega)
                    have e3 := z2.2.2.2 q h1 h2 h3
                    exact ⟨fun a b c d => by rw [e1, e3.1 a b c d, e2], fun a b c d => by rw [e1, e3.2 a b c d, e2]⟩
                refine ⟨J5, K, rfl, Or.inr ⟨_, by rw [rdM_s hM]; exact rdE_1 (fun h => by have := h16 h; show a + 16 ≤ ln; omega) oB, rfl, hon, z1, fun j hj => ?_, ?_, ?_, (va_up (va_up J5 59 (J2 59)) 63 (upd (J5 63) 60 (J2 63 60))), r3.tr m5, K0, fun j hj => ?_⟩⟩
                · have hj : j < opN (hkS τ) (ln - a) := hj
                  rw [z5, eI2, va_up_other _ _ (by decide), eI1, va_up_same]
                  show (if 0 ≤ j ∧ j < 0 + opN (hkS τ) (ln - a) then J2 61 (0 + (j - 0)) else _) = _
                  rw [if_pos (by omega), Nat.sub_zero, Nat.zero_add, ob j, if_pos hj]
                  show opF (hkS τ) (fun i => J 49 (32 * s + i)) (τ 7 10) (fun j => J 57 (a + j)) j = opF (hkS τ) (τ 2) (τ 7 10) (fun j => lt (a + j)) j
                  refine opF_cg (fun i hi => hG.2.2.1 i hi) (hg j ?_)
                  unfold opN at hj; split at hj <;> omega
                · rw [z2.2.1 60 (by decide), eI2, va_up_same]; simp [upd]
                · rw [z3, oe 57 (by decide) (by decide), q5.o 57 (by decide) (by decide)]; exact hl57
                · rw [va_up_same]; unfold upd; rw [if_neg hj])
        · refine x_aload_n C dX11_reads_76 3 rfl rfl ?_
          refine x_getiN C fl_X11_450 mO.1 rfl dX11_reads_77 ?_
          refine x_eqi (y := nI ln) (by rw [hF.2.1 58 (by decide)]; exact hln) ?_
          refine x_iload_n C dX11_reads_80 1 rfl rfl ?_
          refine x_isubN C (by omega) dX11_reads_81 ?_
          refine x_bipush (v := nI 16) C dX11_reads_82 (by decide +kernel) ?_
          refine x_icmp_geN (tgt := 90) C (by omega) (by omega) dX11_reads_84 (by decide) (fun c84 => ?_) (fun c84 => ?_)
          · refine x_aload_n C dX11_reads_90 3 rfl rfl ?_
            refine x_iload_n C dX11_reads_91 4 rfl rfl ?_
            refine x_aload_n C dX11_reads_92 3 rfl rfl ?_
            refine x_getrN C fl_X11_243 mO.1 rfl (mO.2.2 57 _ rfl).1 dX11_reads_93 ?_
            refine x_iload_n C dX11_reads_96 1 rfl rfl ?_
            refine x_aload_n C dX11_reads_97 3 rfl rfl ?_
            refine x_getiN C fl_X11_450 mO.1 rfl dX11_reads_98 ?_
            refine x_eqi (y := nI ln) (by rw [hF.2.1 58 (by decide)]; exact hln) ?_
            refine x_iload_n C dX11_reads_101 1 rfl rfl ?_
            refine x_isubN C (by omega) dX11_reads_102 ?_
            refine x_aload_n C dX11_reads_103 3 rfl rfl ?_
            refine x_getrN C fl_X11_249 mO.1 rfl (mO.2.2 61 _ rfl).1 dX11_reads_104 ?_
            have h16 : hkS τ = true → 16 ≤ ln - a := fun h => by first | (have h1 := bI_F c73; rw [h1] at h; cases h) | omega
            have hg : ∀ j, j < ln - a → J 57 (a + j) = lt (a + j) := fun j hj => by rw [hl57]; exact hlt _ (by omega)
            refine x_callV C (ok_X11_open mO (hF.c hc) s hs5 (hkS τ) (τ 7 10) (hG.2.2.2.2.2.2.2.1.1.trans (hkS_b hbt)) hG.2.2.2.2.2.2.2.1.2.2.2.1 (fun j hj => by rw [hG.2.1 j hj]; exact hbt.1 j hj) a (ln - a) (by omega) (by omega) h16 (fun j hj => by rw [hg j hj]; exact hlb _ (by omega))) mv_X11_open ml_X11_453 mO.1 rfl rfl rfl (Nat.le_of_ble_eq_true rfl) (hrm (rm := { frames := 0, cells := 0, slots := 0, locals := 0 }) hZ ⟨Nat.le_of_ble_eq_true rfl, Nat.le_of_ble_eq_true rfl⟩) (hcs hZ ⟨Nat.le_of_ble_eq_true rfl, Nat.le_of_ble_eq_true rfl⟩) dX11_reads_107 (fun v G' hp => ?_)
            obtain ⟨J2, rfl, hq⟩ := hp
            rcases hq with ⟨rfl, oK, oT, q5⟩ | ⟨rfl, oT, ob, w48, g43, q5⟩
            · have oB : opnO τ (fun j => lt (a + j)) (ln - a) = false := Bool.eq_false_iff.mpr (fun h => oT ((opn_m (K := fun i => J 49 (32 * s + i)) (h := fun i => J 48 (32 * s + i)) (fun i hi => hG.2.2.1 i hi) (fun i hi => hG.2.1 i hi) rfl hg h16 oK).mpr (opnO_iff.mp h oK)))
              show hX z 0 0 (T, J2, K, R, A) [(4, .int (nI k)), (3, .int (nI a)), (2, .int (nI (6 * p + nx))), (0, .ref (A 63)), (1, .int (nI s))] 110 [.int (-6)]
              refine x_istore (lv' := [(4, .int (-6)), (3, .int (nI a)), (2, .int (nI (6 * p + nx))), (0, .ref (A 63)), (1, .int (nI s))]) C dX11_reads_110 (Nat.lt_of_lt_of_eq (by decide) hN.symm) rfl ?_
              refine x_iload C dX11_reads_112 0 rfl ?_
              refine x_bipush (v := (-6)) C dX11_reads_114 (by decide +kernel) ?_
              refine x_icmp_ne (tgt := 122) C dX11_reads_116 (by decide) (fun c116 => absurd c116 (by exact fun h => h rfl)) (fun c116 => ?_)
              refine x_bipush (v := (-6)) C dX11_reads_119 (by decide +kernel) ?_
              exact x_iret C E (Nat.le_of_ble_eq_true rfl) (Nat.le_of_ble_eq_true rfl) dX11_reads_121 (by
                    have ek : k = sz nx := by omega
                    subst ek
                    exact ⟨J2, K, rfl, Or.inl ⟨by rw [rdM_s hM]; exact rdE_0 oB, Or.inr rfl, hF.tr (mF.fm q5 (by decide) (h13Z.o (q5.o 13 (by decide) (by decide))) (by intro q h1 h2 h3; simp at h1; omega)), (q5.o 57 (by decide) (by decide)).trans hl57, (q5.o 59 (by decide) (by decide)).trans hl59⟩⟩)
            · have oB : opnO τ (fun j => lt (a + j)) (ln - a) = true := opnO_iff.mpr (fun h => (opn_m (K := fun i => J 49 (32 * s + i)) (h := fun i => J 48 (32 * s + i)) (fun i hi => hG.2.2.1 i hi) (fun i hi => hG.2.1 i hi) rfl hg h16 h).mp (oT h))
              have hon : opN (hkS τ) (ln - a) ≤ 160 := by unfold opN; split <;> omega
              have w48 : wRow J J2 48 s (mixF (τ 1) (fun j => lt (a + j)) (ln - a)) := by rw [← mixF_cg (fun i hi => hG.2.1 i hi) hg]; exact w48
              have g43 : J2 43 = upd (J 43) s (nxN τ) := g43
              have r1 : mdE (opR τ (fun j => lt (a + j)) (ln - a)) J2 s false := hG.r w48.1 (by rw [g43]; simp [upd, opR, sFl, sgR]) (fun q h1 h2 => by intros; exact q5.o q (by simp; omega) (by omega))
              have r2 : mF 5 s J J2 := mF.fm q5 (by decide) (h13Z.o (q5.o 13 (by decide) (by decide))) (by intro q h1 h2 h3; simp at h1; rcases (show q = 43 ∨ q = 48 by omega) with rfl | rfl; exact sdO.fld g43 (by decide); exact sdO.row w48 (by decide))
              have r3 := hF.tr r2
              show hX z 0 0 (T, J2, K, R, A) [(4, .int (nI k)), (3, .int (nI a)), (2, .int (nI (6 * p + nx))), (0, .ref (A 63)), (1, .int (nI s))] 110 [.int (nI (opN (hkS τ) (ln - a)))]
              refine x_istore (lv' := [(4, .int (nI (opN (hkS τ) (ln - a)))), (3, .int (nI a)), (2, .int (nI (6 * p + nx))), (0, .ref (A 63)), (1, .int (nI s))]) C dX11_reads_110 (Nat.lt_of_lt_of_eq (by decide) hN.symm) rfl ?_
              refine x_iload C dX11_reads_112 0 rfl ?_
              refine x_bipush (v := (-6)) C dX11_reads_114 (by decide +kernel) ?_
              refine x_icmp_ne (tgt := 122) C dX11_reads_116 (by decide) (fun c116 => ?_) (fun c116 => absurd c116 (by exact nI_n6 (by unfold opN; split <;> omega)))
              refine x_aload_n C dX11_reads_122 3 rfl rfl ?_
              refine x_getrN C fl_X11_249 mO.1 rfl (mO.2.2 61 _ rfl).1 dX11_reads_123 ?_
              refine x_iconst (v := nI 0) C dX11_reads_126 (by decide +kernel) ?_
              refine x_aload_n C dX11_reads_127 3 rfl rfl ?_
              refine x_getrN C fl_X11_246 mO.1 rfl (mO.2.2 59 _ rfl).1 dX11_reads_128 ?_
              refine x_iconst (v := nI 0) C dX11_reads_131 (by decide +kernel) ?_
              refine x_iload C dX11_reads_132 0 rfl ?_
              refine x_callS C (ok_X11_copy 61 59 (0) (0) (opN (hkS τ) (ln - a)) 400 400 (mO.2.2 61 _ rfl).2.1 (mO.2.2 59 _ rfl).2.1 (mO.2.2 59 _ rfl).2.2 (by omega) (by omega) (by decide) (by decide) (fun e => absurd e (by decide))) ms_X11_copy ml_X11_270 rfl rfl (Nat.le_of_ble_eq_true rfl) (hrm (rm := { frames := 0, cells := 0, slots := 0, locals := 0 }) hZ ⟨Nat.le_of_ble_eq_true rfl, Nat.le_of_ble_eq_true rfl⟩) (hcs hZ ⟨Nat.le_of_ble_eq_true rfl, Nat.le_of_ble_eq_true rfl⟩) dX11_reads_134 (fun v G' hp => ?_)
              obtain ⟨rfl, rfl⟩ := hp
              generalize eI3 : va_up J2 59 (fun j => if 0 ≤ j ∧ j < 0 + (opN (hkS τ) (ln - a)) then J2 61 (0 + (j - 0)) else J2 59 j) = I3
              have eI3 := eI3.symm
              show hX z 0 0 (T, I3, K, R, A) [(4, .int (nI (opN (hkS τ) (ln - a)))), (3, .int (nI a)), (2, .int (nI (6 * p + nx))), (0, .ref (A 63)), (1, .int (nI s))] 137 []
              refine x_aload_n C dX11_reads_137 3 rfl rfl ?_
              refine x_iload C dX11_reads_138 0 rfl ?_
              refine x_putiN C fl_X11_457 mO.1 mO.2.1 rfl dX11_reads_140 (fun I4 eI4 => ?_)
              refine x_aload_n C dX11_reads_143 3 rfl rfl ?_
              refine x_iload_n C dX11_reads_144 4 rfl rfl ?_
              have oe : ∀ q, q ≠ 63 → q ≠ 59 → I4 q = J2 q := fun q h1 h2 => by rw [eI4, va_up_other _ _ h1, eI3, va_up_other _ _ h2]
              refine x_callV C (ok_X11_ends mO (by unfold shC; rw [oe 4 (by decide) (by decide), oe 5 (by decide) (by decide)]; exact r3.c hc) s hs5 (opR τ (fun j => lt (a + j)) (ln - a)) (r1.u59 oe) nx (by rw [opR_7 (by decide), h13t]; exact hnx) p ms (by rw [oe 34 (by decide) (by decide), r3.o 34 (by decide) (by decide)]; exact hp34) hp8 (by rw [oe 26 (by decide) (by decide), r3.o 26 (by decide) (by decide)]; exact hp.2.1) hnm hm6 ha (by rw [oe 35 (by decide) (by decide), r3.o 35 (by decide) (by decide)]; exact hha) ha2) mv_X11_ends ml_X11_447 mO.1 rfl rfl rfl (Nat.le_of_ble_eq_true rfl) (hrm (rm := { frames := 0, cells := 0, slots := 0, locals := 0 }) hZ ⟨Nat.le_of_ble_eq_true rfl, Nat.le_of_ble_eq_true rfl⟩) (hcs hZ ⟨Nat.le_of_ble_eq_true rfl, Nat.le_of_ble_eq_true rfl⟩) dX11_reads_145 (fun v G' hp => ?_)
              obtain ⟨rfl, J5, rfl, z1, z2, z3, z4, z5⟩ := hp
              show hX z 0 0 (T, J5, K, R, A) [(4, .int (nI (opN (hkS τ) (ln - a)))), (3, .int (nI a)), (2, .int (nI (6 * p + nx))), (0, .ref (A 63)), (1, .int (nI s))] 148 []
              refine x_iload C dX11_reads_148 0 rfl ?_
              exact x_iret C E (Nat.le_of_ble_eq_true rfl) (Nat.le_of_ble_eq_true rfl) dX11_reads_150 (by
                  have ek : k = sz nx := by omega
                  subst ek
                  have K0 : ∀ q, q ≠ 63 → q ≠ 59 → J5 q = va_up (va_up J5 59 (J2 59)) 63 (upd (J5 63) 60 (J2 63 60)) q := fun q h1 h2 => by rw [va_up_other _ _ h1, va_up_other _ _ h2]
                  have m5 : mF 5 s J2 (va_up (va_up J5 59 (J2 59)) 63 (upd (J5 63) 60 (J2 63 60))) := by
                    refine ⟨fun q h1 h2 => ?_, fun j hj1 => ?_, fun h => ?_, fun q h1 h2 h3 => ?_⟩
                    · rw [va_up_other _ _ h2]
                      by_cases h3 : q = 59
                      · rw [h3, va_up_same]
                      · rw [va_up_other _ _ h3, z2.1 q h1 h2]; exact oe q h2 h3
                    · rw [va_up_same]; unfold upd
                      by_cases h6 : j = 60
                      · rw [if_pos h6, h6]
                      · rw [if_neg h6, z2.2.1 j hj1, eI4, va_up_same]; unfold upd; rw [if_neg h6, eI3, va_up_other _ _ (by decide)]
                    · refine h13Z.o (by rw [va_up_other _ _ (by decide), va_up_other _ _ (by decide)]) (z2.2.2.1 (h13Z.o (oe 13 (by decide) (by decide)) h))
                    · have e1 : va_up (va_up J5 59 (J2 59)) 63 (upd (J5 63) 60 (J2 63 60)) q = J5 q := by rw [va_up_other _ _ (by omega), va_up_other _ _ (by omega)]
                      have e2 := oe q (by omega) (by omega)
                      have e3 := z2.2.2.2 q h1 h2 h3
                      exact ⟨fun a b c d => by rw [e1, e3.1 a b c d, e2], fun a b c d => by rw [e1, e3.2 a b c d, e2]⟩
                  refine ⟨J5, K, rfl, Or.inr ⟨_, by rw [rdM_s hM]; exact rdE_1 (fun h => by have := h16 h; show a + 16 ≤ ln; omega) oB, rfl, hon, z1, fun j hj => ?_, ?_, ?_, (va_up (va_up J5 59 (J2 59)) 63 (upd (J5 63) 60 (J2 63 60))), r3.tr m5, K0, fun j hj => ?_⟩⟩
                  · have hj : j < opN (hkS τ) (ln - a) := hj
                    rw [z5, eI4, va_up_other _ _ (by decide), eI3, va_up_same]
                    show (if 0 ≤ j ∧ j < 0 + opN (hkS τ) (ln - a) then J2 61 (0 + (j - 0)) else _) = _
                    rw [if_pos (by omega), Nat.sub_zero, Nat.zero_add, ob j, if_pos hj]
                    show opF (hkS τ) (fun i => J 49 (32 * s + i)) (τ 7 10) (fun j => J 57 (a + j)) j = opF (hkS τ) (τ 2) (τ 7 10) (fun j => lt (a + j)) j
                    refine opF_cg (fun i hi => hG.2.2.1 i hi) (hg j ?_)
                    unfold opN at hj; split at hj <;> omega
                  · rw [z2.2.1 60 (by decide), eI4, va_up_same]; simp [upd]
                  · rw [z3, oe 57 (by decide) (by decide), q5.o 57 (by decide) (by decide)]; exact hl57
                  · rw [va_up_same]; unfold upd; rw [if_neg hj])
          · refine x_bipush (v := (-5)) C dX11_reads_87 (by decide +kernel) ?_
            exact x_iret C E (Nat.le_of_ble_eq_true rfl) (Nat.le_of_ble_eq_true rfl) dX11_reads_89 (by
                  have ek : k = sz nx := by omega
                  subst ek
                  exact ⟨J, K, rfl, Or.inl ⟨by rw [rdM_s hM]; exact rdE_2 (bI_T c73) (show ln < a + 16 by omega), Or.inl rfl, hF, hl57, hl59⟩⟩)
      · refine x_iload_n C dX11_reads_33 1 rfl rfl ?_
        refine x_if_ltN (tgt := 61) C (by omega) dX11_reads_34 (by decide) ?_
        refine x_aload_n C dX11_reads_37 3 rfl rfl ?_
        refine x_iload_n C dX11_reads_38 4 rfl rfl ?_
        refine x_aload_n C dX11_reads_39 3 rfl rfl ?_
        refine x_getrN C fl_X11_162 mO.1 rfl (mO.2.2 28 _ rfl).1 dX11_reads_40 ?_
        refine x_iconst (v := nI 5) C dX11_reads_43 (by decide +kernel) ?_
        refine x_iload_n C dX11_reads_44 2 rfl rfl ?_
        refine x_imulN C dX11_reads_45 ?_
        refine x_iload C dX11_reads_46 0 rfl ?_
        refine x_iaddN C dX11_reads_48 ?_
        refine x_ialdN C (mO.2.2 28 _ rfl).2.1 (by omega) (by omega) dX11_reads_49 ?_
        refine x_eqi (y := nI (tk nx k)) (by rw [hF.o 28 (by decide) (by decide)]; exact hp.2.2.2.1 nx hnm k c30) ?_
        refine x_iload_n C dX11_reads_50 1 rfl rfl ?_
        refine x_callV C (ok_X11_readsToken mO (hF.c hc) s hs5 (hF.2.2.1 h13) τ a hG hbt ln (by rw [hF.2.1 58 (by decide)]; exact hln) hl160 lt (fun j hj => by rw [hl57]; exact hlt j hj) hlb hal ha (by rw [hF.o 35 (by decide) (by decide)]; exact hha) ha2 sec (hsec.o (hF.o 51 (by decide) (by decide))) (tk nx k) (hp.2.2.2.2.2.2 nx k) (fun h1 h2 => hx k τ a c30 hM h1 h2)) mv_X11_readsToken ml_X11_460 mO.1 rfl rfl rfl (Nat.le_of_ble_eq_true rfl) (hrm (rm := { frames := 0, cells := 0, slots := 0, locals := 0 }) hZ ⟨Nat.le_of_ble_eq_true rfl, Nat.le_of_ble_eq_true rfl⟩) (hcs hZ ⟨Nat.le_of_ble_eq_true rfl, Nat.le_of_ble_eq_true rfl⟩) dX11_reads_51 (fun v G' hp => ?_)
        obtain ⟨J1, K1, rfl, b1, b2, b3, hq⟩ := hp
        rcases (or3 hq) with ⟨τ1, a1, n0, rfl, n1⟩ | ⟨n0, rfl⟩ | ⟨n0, rfl⟩
        · have hM1 : rdK sec ha lt ln (tk nx) σ (k + 1) = some (τ1, a1) := by rw [rdK_s hM]; exact n0
          show hX z 0 0 (T, J1, K1, R, A) [(4, .int (nI k)), (3, .int (nI a)), (2, .int (nI (6 * p + nx))), (0, .ref (A 63)), (1, .int (nI s))] 54 [.int (nI a1)]
          refine x_istore_n (lv' := [(3, .int (nI a1)), (4, .int (nI k)), (2, .int (nI (6 * p + nx))), (0, .ref (A 63)), (1, .int (nI s))]) C dX11_reads_54 rfl (Nat.lt_of_lt_of_eq (by decide) hN.symm) rfl ?_
          refine x_iinc (v := nI (k + 1)) (lv' := [(4, .int (nI (k + 1))), (3, .int (nI a1)), (2, .int (nI (6 * p + nx))), (0, .ref (A 63)), (1, .int (nI s))]) C dX11_reads_55 1 rfl (nI_inc 1) (Nat.lt_of_lt_of_eq (by decide) hN.symm) rfl ?_
          refine x_goto (tgt := 22) C dX11_reads_58 (by decide) ?_
          refine x_sub (lv' := _) [0, 1, 2, 3, 4] rfl ?_
          exact ih22 a1 (k + 1) J1 K1 (τ1) (by omega) (by omega) hM1 n1 (hF.tr b1) (b2.trans hl57) (b3.trans hl59) (rdT_le n0 hal)
        · have hNo : rdK sec ha lt ln (tk nx) σ (k + 1) = none := by rw [rdK_s hM]; exact n0
          show hX z 0 0 (T, J1, K1, R, A) [(4, .int (nI k)), (3, .int (nI a)), (2, .int (nI (6 * p + nx))), (0, .ref (A 63)), (1, .int (nI s))] 54 [.int (-5)]
          refine x_istore_n (lv' := [(3, .int (-5)), (4, .int (nI k)), (2, .int (nI (6 * p + nx))), (0, .ref (A 63)), (1, .int (nI s))]) C dX11_reads_54 rfl (Nat.lt_of_lt_of_eq (by decide) hN.symm) rfl ?_
          refine x_iinc (v := nI (k + 1)) (lv' := [(4, .int (nI (k + 1))), (3, .int (-5)), (2, .int (nI (6 * p + nx))), (0, .ref (A 63)), (1, .int (nI s))]) C dX11_reads_55 1 rfl (nI_inc 1) (Nat.lt_of_lt_of_eq (by decide) hN.symm) rfl ?_
          refine x_goto (tgt := 22) C dX11_reads_58 (by decide) ?_
          refine x_iload C dX11_reads_22 0 rfl ?_
          refine x_aload_n C dX11_reads_24 3 rfl rfl ?_
          refine x_getrN C fl_X11_159 mO.1 rfl (mO.2.2 27 _ rfl).1 dX11_reads_25 ?_
          refine x_iload_n C dX11_reads_28 2 rfl rfl ?_
          refine x_ialdN C (mO.2.2 27 _ rfl).2.1 (by omega) (by omega) dX11_reads_29 ?_
          refine x_eqi (y := nI (sz nx)) (by rw [(hF.tr b1).o 27 (by decide) (by decide)]; exact hp.2.2.1 nx hnm) ?_
          refine x_icmp_geN (tgt := 61) C (by omega) (by omega) dX11_reads_30 (by decide) (fun c30 => ?_) (fun c30 => ?_)
          · refine x_iload_n C dX11_reads_61 1 rfl rfl ?_
            refine x_if_ge (tgt := 67) C dX11_reads_62 (by decide) (fun c62 => absurd c62 (by decide +kernel)) (fun c62 => ?_)
            refine x_iload_n C dX11_reads_65 1 rfl rfl ?_
            exact x_iret C E (Nat.le_of_ble_eq_true rfl) (Nat.le_of_ble_eq_true rfl) dX11_reads_66 (⟨J1, K1, rfl, Or.inl ⟨rdM_n hNo (by omega), Or.inl rfl, hF.tr b1, b2.trans hl57, b3.trans hl59⟩⟩)
          · refine x_iload_n C dX11_reads_33 1 rfl rfl ?_
            refine x_if_lt (tgt := 61) C dX11_reads_34 (by decide) (fun c34 => ?_) (fun c34 => absurd c34 (by exact fun h => h (by decide +kernel)))
            refine x_iload_n C dX11_reads_61 1 rfl rfl ?_
            refine x_if_ge (tgt := 67) C dX11_reads_62 (by decide) (fun c62 => absurd c62 (by decide +kernel)) (fun c62 => ?_)
            refine x_iload_n C dX11_reads_65 1 rfl rfl ?_
            exact x_iret C E (Nat.le_of_ble_eq_true rfl) (Nat.le_of_ble_eq_true rfl) dX11_reads_66 (⟨J1, K1, rfl, Or.inl ⟨rdM_n hNo (by omega), Or.inl rfl, hF.tr b1, b2.trans hl57, b3.trans hl59⟩⟩)
        · have hNo : rdK sec ha lt ln (tk nx) σ (k + 1) = none := by rw [rdK_s hM]; exact n0
          show hX z 0 0 (T, J1, K1, R, A) [(4, .int (nI k)), (3, .int (nI a)), (2, .int (nI (6 * p + nx))), (0, .ref (A 63)), (1, .int (nI s))] 54 [.int (-6)]
          refine x_istore_n (lv' := [(3, .int (-6)), (4, .int (nI k)), (2, .int (nI (6 * p + nx))), (0, .ref (A 63)), (1, .int (nI s))]) C dX11_reads_54 rfl (Nat.lt_of_lt_of_eq (by decide) hN.symm) rfl ?_
          refine x_iinc (v := nI (k + 1)) (lv' := [(4, .int (nI (k + 1))), (3, .int (-6)), (2, .int (nI (6 * p + nx))), (0, .ref (A 63)), (1, .int (nI s))]) C dX11_reads_55 1 rfl (nI_inc 1) (Nat.lt_of_lt_of_eq (by decide) hN.symm) rfl ?_
          refine x_goto (tgt := 22) C dX11_reads_58 (by decide) ?_
          refine x_iload C dX11_reads_22 0 rfl ?_
          refine x_aload_n C dX11_reads_24 3 rfl rfl ?_
          refine x_getrN C fl_X11_159 mO.1 rfl (mO.2.2 27 _ rfl).1 dX11_reads_25 ?_
          refine x_iload_n C dX11_reads_28 2 rfl rfl ?_
          refine x_ialdN C (mO.2.2 27 _ rfl).2.1 (by omega) (by omega) dX11_reads_29 ?_
          refine x_eqi (y := nI (sz nx)) (by rw [(hF.tr b1).o 27 (by decide) (by decide)]; exact hp.2.2.1 nx hnm) ?_
          refine x_icmp_geN (tgt := 61) C (by omega) (by omega) dX11_reads_30 (by decide) (fun c30 => ?_) (fun c30 => ?_)
          · refine x_iload_n C dX11_reads_61 1 rfl rfl ?_
            refine x_if_ge (tgt := 67) C dX11_reads_62 (by decide) (fun c62 => absurd c62 (by decide +kernel)) (fun c62 => ?_)
            refine x_iload_n C dX11_reads_65 1 rfl rfl ?_
            exact x_iret C E (Nat.le_of_ble_eq_true rfl) (Nat.le_of_ble_eq_true rfl) dX11_reads_66 (⟨J1, K1, rfl, Or.inl ⟨rdM_n hNo (by omega), Or.inr rfl, hF.tr b1, b2.trans hl57, b3.trans hl59⟩⟩)
          · refine x_iload_n C dX11_reads_33 1 rfl rfl ?_
            refine x_if_lt (tgt := 61) C dX11_reads_34 (by decide) (fun c34 => ?_) (fun c34 => absurd c34 (by exact fun h => h (by decide +kernel)))
            refine x_iload_n C dX11_reads_61 1 rfl rfl ?_
            refine x_if_ge (tgt := 67) C dX11_reads_62 (by decide) (fun c62 => absurd c62 (by decide +kernel)) (fun c62 => ?_)
            refine x_iload_n C dX11_reads_65 1 rfl rfl ?_
            exact x_iret C E (Nat.le_of_ble_eq_true rfl) (Nat.le_of_ble_eq_true rfl) dX11_reads_66 (⟨J1, K1, rfl, Or.inl ⟨rdM_n hNo (by omega), Or.inr rfl, hF.tr b1, b2.trans hl57, b3.trans hl59⟩⟩)
  refine x_sub (lv' := _) [0, 1, 2, 3, 4] rfl ?_
  exact L22 _ 0 0 I L (σ) (Nat.lt_succ_self _) (Nat.zero_le _) rfl hE mF.rf rfl rfl (Nat.zero_le _)

