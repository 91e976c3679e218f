def opN (hk : Bool) (l : Nat) : Nat := if hk then l - 16 else l
def opF (hk : Bool) (K : Nat → Int32) (n : Int32) (g : Nat → Int32) (j : Nat) : Int32 := if hk then g j ^^^ strm K n j else g j
theorem opF_cg {hk : Bool} {K K' g g' : Nat → Int32} {n : Int32} (h : ∀ i, i < 32 → K i = K' i) {j : Nat} (hg : g j = g' j) : opF hk K n g j = opF hk K' n g' j := by
  unfold opF; rw [strm_congr h, hg]
theorem byt_op {hk : Bool} {K g : Nat → Int32} {n : Int32} {j : Nat} (hg : byt (g j) < 256) : byt (opF hk K n g j) < 256 := by
  unfold opF; split
  · exact byt_xor hg (byt_strm _ _ _)
  · exact hg
set_option maxHeartbeats 4000000 in
set_option maxRecDepth 100000 in
theorem ok_X9_open {l : Launch} {a0 : Nat} {D : va_G} {sa : Nat → Nat} {T : Nat → Option hKd} {I : Nat → Nat → Int32} {L : Nat → Nat → Int64} {R : Nat → Nat → Option Nat} {A : Nat → Nat} (xO : isX T R A a0) (hsa : ∀ k, k < 5 → sa k = A (90 + k)) (u : Nat) (hu : isSt T R A a0 u) (hu143 : 143 ≤ u) (hu2 : u = 143 ∨ 300 ≤ u) (hst : stI I) (f e s : Nat) (hs : I 105 1 = nI s) (hs160 : s ≤ 160) (hfe : f ≤ e) (hes : e ≤ s) (hk : Bool) (nv : Int32) (hhk : I u 7 = bI hk) (hnv : I u 10 = nv) (h16 : hk = true → f + 16 ≤ e) (hbx : ∀ j, f ≤ j → j < e → byt (I 106 j) < 256) (hbh : ∀ j, j < 32 → byt (I (u + 1 + 1) j) < 256) (h2 b2 cap2 : Nat) (hT2 : T h2 = some (.inr 4)) (hR2 : R h2 0 = some b2) (hTb2 : T b2 = some (.inl (.int, cap2))) (h20 : a0 ≤ A h2) (hb20 : a0 ≤ A b2) (hout : (h2 = 107 ∧ b2 = 108 ∧ cap2 = 160) ∨ (h2 = 153 ∧ b2 = 154 ∧ cap2 = 32)) (hfit : hk = false → e - f ≤ cap2) (hfit2 : hk = true → e - f - 16 ≤ cap2) : hM l a0 D sa yX9_open cX9_open 6 (some .boolean) { frames := 5, cells := 0, slots := 0, locals := 129 } [.ref (A 109), .ref (A u), .ref (A 105), .int (nI f), .int (nI e), .ref (A h2)] (T, I, L, R, A) (fun r G' => ∃ I' L', G' = (T, I', L', R, A) ∧ fy [138, 139, 140] L L' ∧ ((r = some (.int (nI 0)) ∧ hk = true ∧ ¬ tagR (I (u + 1 + 2)) nv 32 (fun j => byt (I (u + 1 + 1) j)) (fun j => I 106 (f + j)) (e - f - 16) ∧ fx [133, 134, 135, 136, 141, 142] I I') ∨ (r = some (.int (nI 1)) ∧ (hk = true → tagR (I (u + 1 + 2)) nv 32 (fun j => byt (I (u + 1 + 1) j)) (fun j => I 106 (f + j)) (e - f - 16)) ∧ (∀ j, I' b2 j = if j < opN hk (e - f) then opF hk (I (u + 1 + 2)) nv (fun j => I 106 (f + j)) j else I b2 j) ∧ I' h2 = upd (I h2) 1 (nI (opN hk (e - f))) ∧ (∀ j, j < 32 → I' (u + 1 + 1) j = mixF (I (u + 1 + 1)) (fun j => I 106 (f + j)) (e - f) j) ∧ I' u = upd (I u) 10 (if hk then nv + 1 else nv) ∧ fx [111, 112, 113, 133, 134, 135, 136, 141, 142, h2, b2, u, u + 1 + 1] I I'))) := by
  refine hM.of (by decide +kernel) (Nat.le_of_ble_eq_true rfl) ?_
  intro z hl h0 hD hS hN C E
  subst hl; subst h0; subst hD; subst hS
  have C : hC z RX9 cX9_open := C
  have hZ := E.2.2.2.1
  show hX z 0 0 (T, I, L, R, A) [(0, .ref (A 109)), (1, .ref (A u)), (2, .ref (A 105)), (3, .int (nI f)), (4, .int (nI e)), (5, .ref (A h2))] 0 []
  refine x_aload_n C dX9_open_0 1 rfl rfl ?_
  refine x_getiN C fl_X9_135 hu.1 rfl dX9_open_1 ?_
  refine x_eqi (y := bI hk) hhk ?_
  refine x_if_ne (tgt := 28) C dX9_open_4 (by decide) (fun c4 => ?_) (fun c4 => ?_)
  · refine x_aload_n C dX9_open_28 0 rfl rfl ?_
    refine x_getrN C fl_X9_35 (xO.1 109 _ rfl).1 rfl (xO.2.1 109 3 _ rfl) dX9_open_29 ?_
    refine x_aload_n C dX9_open_32 1 rfl rfl ?_
    refine x_getrN C fl_X9_208 hu.1 rfl (hu.2.2 2 (by decide)).1 dX9_open_33 ?_
    refine x_aload_n C dX9_open_36 1 rfl rfl ?_
    refine x_getiN C fl_X9_138 hu.1 rfl dX9_open_37 ?_
    refine x_eqi (y := nv) hnv ?_
    refine x_aload_n C dX9_open_40 1 rfl rfl ?_
    refine x_getrN C fl_X9_104 hu.1 rfl (hu.2.2 1 (by decide)).1 dX9_open_41 ?_
    refine x_aload_n C dX9_open_44 2 rfl rfl ?_
    refine x_iload_n C dX9_open_45 3 rfl rfl ?_
    refine x_iload C dX9_open_46 4 rfl ?_
    refine x_bipush (v := nI 16) C dX9_open_48 (by decide +kernel) ?_
    refine x_isubN C (by have := h16 (bI_T c4); omega) dX9_open_50 ?_
    refine x_aload C dX9_open_51 5 rfl ?_
    refine x_callV C (ok_X0_open xO hsa (u + 1 + 2) 32 nv (hu.2.2 2 (by decide)).2.1 (by decide) (by decide) (by omega) (u + 1 + 1) 32 2 (hu.2.2 1 (by decide)).2.1 (by decide) (by decide) (by omega) hbh f (e - 16) s hs hs160 (by have := h16 (bI_T c4); omega) (by have := h16 (bI_T c4); omega) (by omega) (fun j j1 j2 => hbx j j1 (by omega)) h2 b2 cap2 hT2 hR2 hTb2 (by omega) h20 hb20 (by omega) (by omega) (by have := hfit2 (bI_T c4); omega)) mv_X0_open ml_X9_223 (xO.1 132 _ rfl).1 rfl rfl rfl (Nat.le_of_ble_eq_true rfl) (hrm (rm := { frames := 0, cells := 0, slots := 0, locals := 0 }) hZ ⟨Nat.le_of_ble_eq_true rfl, Nat.le_of_ble_eq_true rfl⟩) (hcs hZ ⟨Nat.le_of_ble_eq_true rfl, Nat.le_of_ble_eq_true rfl⟩) dX9_open_53 (fun v G' hp => ?_)
    obtain ⟨J2, L1, rfl, oL, ⟨rfl, oT, oF⟩ | ⟨rfl, oT, ob, oh, oF⟩⟩ := hp
    · show hX z 0 0 (T, J2, L1, R, A) [(0, .ref (A 109)), (1, .ref (A u)), (2, .ref (A 105)), (3, .int (nI f)), (4, .int (nI e)), (5, .ref (A h2))] 56 [.int (nI 0)]
      refine x_if_eqN (tgt := 72) C (by omega) dX9_open_56 (by decide) (fun c56 => ?_) (fun c56 => absurd c56 (by omega))
      refine x_iconst (v := nI 0) C dX9_open_72 (by decide +kernel) ?_
      exact x_zret C E (by first | exact Or.inl rfl | exact Or.inr rfl | assumption) (Nat.le_of_ble_eq_true rfl) (Nat.le_of_ble_eq_true rfl) dX9_open_73 (⟨J2, L1, rfl, oL, Or.inl ⟨rfl, bI_T c4, by rw [show e - f - 16 = e - 16 - f by omega]; exact oT, oF⟩⟩)
    · show hX z 0 0 (T, J2, L1, R, A) [(0, .ref (A 109)), (1, .ref (A u)), (2, .ref (A 105)), (3, .int (nI f)), (4, .int (nI e)), (5, .ref (A h2))] 56 [.int (nI 1)]
      refine x_if_eqN (tgt := 72) C (by omega) dX9_open_56 (by decide) (fun c56 => absurd c56 (by omega)) (fun c56 => ?_)
      refine x_aload_n C dX9_open_59 1 rfl rfl ?_
      refine x_dup C dX9_open_60 rfl ?_
      refine x_getiN C fl_X9_138 hu.1 rfl dX9_open_61 ?_
      refine x_eqi (y := nv) (by rw [oF u (by simp; omega)]; exact hnv) ?_
      refine x_iconst (v := nI 1) C dX9_open_64 (by decide +kernel) ?_
      refine x_iadd C dX9_open_65 ?_
      refine x_putiN C fl_X9_138 hu.1 hu.2.1 rfl dX9_open_66 (fun I1 eI1 => ?_)
      have fB : fx [111, 112, 113, 133, 134, 135, 136, 141, 142, h2, b2, u, u + 1 + 1] I I1 := by rw [eI1]; exact (oF.wk (by simp)).up (by simp)
      refine x_goto (tgt := 74) C dX9_open_69 (by decide) ?_
      refine x_aload_n C dX9_open_74 0 rfl rfl ?_
      refine x_aload_n C dX9_open_75 1 rfl rfl ?_
      refine x_aload_n C dX9_open_76 2 rfl rfl ?_
      refine x_getrN C fl_X9_185 (xO.1 105 _ rfl).1 rfl (xO.2.1 105 0 _ rfl) dX9_open_77 ?_
      refine x_iload_n C dX9_open_80 3 rfl rfl ?_
      refine x_iload C dX9_open_81 4 rfl ?_
      refine x_callV C (ok_X9_mixHash xO hsa u (u + 1 + 1) 106 160 f e (fB.st (by intro k hk; simp; omega) hst) hu.1 (hu.2.2 1 (by decide)).1 (hu.2.2 1 (by decide)).2.1 (hu.2.2 1 (by decide)).2.2 (by omega) (xO.1 106 _ rfl).1 (by decide) hfe (by omega) (by decide)) mv_X9_mixHash ml_X9_158 (xO.1 109 _ rfl).1 rfl rfl rfl (Nat.le_of_ble_eq_true rfl) (hrm (rm := { frames := 0, cells := 0, slots := 0, locals := 0 }) hZ ⟨Nat.le_of_ble_eq_true rfl, Nat.le_of_ble_eq_true rfl⟩) (hcs hZ ⟨Nat.le_of_ble_eq_true rfl, Nat.le_of_ble_eq_true rfl⟩) dX9_open_83 (fun v G' hp => ?_)
      obtain ⟨rfl, J5, rfl, h1, h2_⟩ := hp
      show hX z 0 0 (T, J5, L1, R, A) [(0, .ref (A 109)), (1, .ref (A u)), (2, .ref (A 105)), (3, .int (nI f)), (4, .int (nI e)), (5, .ref (A h2))] 86 []
      refine x_iconst (v := nI 1) C dX9_open_86 (by decide +kernel) ?_
      exact x_zret C E (by first | exact Or.inl rfl | exact Or.inr rfl | assumption) (Nat.le_of_ble_eq_true rfl) (Nat.le_of_ble_eq_true rfl) dX9_open_87 (by
          have ek := bI_T c4
          subst ek
          refine ⟨J5, L1, rfl, oL, Or.inr ⟨rfl, (fun _ => by rw [show e - f - 16 = e - 16 - f by omega]; exact oT), fun j => ?_, ?_, fun j hj => ?_, ?_, fB.tr h2_ (by simp)⟩⟩
          · rw [h2_ b2 (by simp; omega), eI1, va_up_other _ _ (by omega), ob j, show e - 16 - f = e - f - 16 by omega]; rfl
          · rw [h2_ h2 (by simp; omega), eI1, va_up_other _ _ (by omega), oh, show e - 16 - f = e - f - 16 by omega]; rfl
          · rw [h1]; simp only [hj, if_true]; rw [eI1, va_up_other _ _ (by omega), va_up_other _ _ (by omega), oF (u + 1 + 1) (by simp; omega), oF 106 (by simp; omega)]
          · rw [h2_ u (by simp; omega), eI1, va_up_same, oF u (by simp; omega)]; rfl)
  · refine x_aload C dX9_open_7 5 rfl ?_
    refine x_iconst (v := nI 0) C dX9_open_9 (by decide +kernel) ?_
    refine x_putiN C fl_X9_162 hT2 h20 rfl dX9_open_10 (fun I2 eI2 => ?_)
    refine x_aload C dX9_open_13 5 rfl ?_
    refine x_aload_n C dX9_open_15 2 rfl rfl ?_
    refine x_getrN C fl_X9_185 (xO.1 105 _ rfl).1 rfl (xO.2.1 105 0 _ rfl) dX9_open_16 ?_
    refine x_iload_n C dX9_open_19 3 rfl rfl ?_
    refine x_iload C dX9_open_20 4 rfl ?_
    refine x_callV C (ok_X4_putAll h2 b2 cap2 0 hT2 hR2 hTb2 (by omega) (by rw [eI2, va_up_same]; simp [upd]) (by omega) h20 hb20 (by omega) 106 160 f e (xO.1 106 _ rfl).1 (by decide) hfe (by omega) (by have := hfit (bI_F c4); omega) (by omega) (by omega)) mv_X4_putAll ml_X9_204 hT2 rfl rfl rfl (Nat.le_of_ble_eq_true rfl) (hrm (rm := { frames := 0, cells := 0, slots := 0, locals := 0 }) hZ ⟨Nat.le_of_ble_eq_true rfl, Nat.le_of_ble_eq_true rfl⟩) (hcs hZ ⟨Nat.le_of_ble_eq_true rfl, Nat.le_of_ble_eq_true rfl⟩) dX9_open_22 (fun v G' hp => ?_)
    obtain ⟨rfl, J4, rfl, r1, r2, r3⟩ := hp
    have fA : fx [111, 112, 113, 133, 134, 135, 136, 141, 142, h2, b2, u, u + 1 + 1] I J4 := (show fx [111, 112, 113, 133, 134, 135, 136, 141, 142, h2, b2, u, u + 1 + 1] I I2 from by rw [eI2]; exact fx.rf.up (by simp)).tr r3 (by simp)
    have e1_ := eI2
    show hX z 0 0 (T, J4, L, R, A) [(0, .ref (A 109)), (1, .ref (A u)), (2, .ref (A 105)), (3, .int (nI f)), (4, .int (nI e)), (5, .ref (A h2))] 25 []
    refine x_goto (tgt := 74) C dX9_open_25 (by decide) ?_
    refine x_aload_n C dX9_open_74 0 rfl rfl ?_
    refine x_aload_n C dX9_open_75 1 rfl rfl ?_
    refine x_aload_n C dX9_open_76 2 rfl rfl ?_
    refine x_getrN C fl_X9_185 (xO.1 105 _ rfl).1 rfl (xO.2.1 105 0 _ rfl) dX9_open_77 ?_
    refine x_iload_n C dX9_open_80 3 rfl rfl ?_
    refine x_iload C dX9_open_81 4 rfl ?_
    refine x_callV C (ok_X9_mixHash xO hsa u (u + 1 + 1) 106 160 f e (fA.st (by intro k hk; simp; omega) hst) hu.1 (hu.2.2 1 (by decide)).1 (hu.2.2 1 (by decide)).2.1 (hu.2.2 1 (by decide)).2.2 (by omega) (xO.1 106 _ rfl).1 (by decide) hfe (by omega) (by decide)) mv_X9_mixHash ml_X9_158 (xO.1 109 _ rfl).1 rfl rfl rfl (Nat.le_of_ble_eq_true rfl) (hrm (rm := { frames := 0, cells := 0, slots := 0, locals := 0 }) hZ ⟨Nat.le_of_ble_eq_true rfl, Nat.le_of_ble_eq_true rfl⟩) (hcs hZ ⟨Nat.le_of_ble_eq_true rfl, Nat.le_of_ble_eq_true rfl⟩) dX9_open_83 (fun v G' hp => ?_)
    obtain ⟨rfl, J5, rfl, h1, h2_⟩ := hp
    show hX z 0 0 (T, J5, L, R, A) [(0, .ref (A 109)), (1, .ref (A u)), (2, .ref (A 105)), (3, .int (nI f)), (4, .int (nI e)), (5, .ref (A h2))] 86 []
    refine x_iconst (v := nI 1) C dX9_open_86 (by decide +kernel) ?_
    exact x_zret C E (by first | exact Or.inl rfl | exact Or.inr rfl | assumption) (Nat.le_of_ble_eq_true rfl) (Nat.le_of_ble_eq_true rfl) dX9_open_87 (by
        have ek := bI_F c4
        subst ek
        refine ⟨J5, L, rfl, fun _ _ => rfl, Or.inr ⟨rfl, (fun h => by cases h), fun j => ?_, ?_, fun j hj => ?_, ?_, fA.tr h2_ (by simp)⟩⟩
        · rw [h2_ b2 (by simp; omega), r1]; show (if 0 ≤ j ∧ j < 0 + (e - f) then _ else _) = (if j < e - f then _ else _)
          by_cases hj : j < e - f
          · rw [if_pos (by omega), if_pos hj, e1_, va_up_other _ _ (by omega)]; rfl
          · rw [if_neg (by omega), if_neg hj, e1_, va_up_other _ _ (by omega)]
        · rw [h2_ h2 (by simp; omega), r2, e1_, va_up_same]; funext j; unfold upd; by_cases hj : j = 1 <;> simp [hj, opN]
        · rw [h1]; simp only [hj, if_true]; rw [show J4 (u + 1 + 1) = I (u + 1 + 1) from by rw [r3 (u + 1 + 1) (by simp; omega), e1_, va_up_other _ _ (by omega)], fA 106 (by simp; omega)]
        · rw [h2_ u (by simp; omega), show J4 u = I u from by rw [r3 u (by simp; omega), e1_, va_up_other _ _ (by omega)], ← hnv]; exact (upd_id rfl).symm)

