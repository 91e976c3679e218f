/-! ===== reading, pure; Talk: take ===== -/
theorem rdK_s {sec : Nat → Int32} {ha : Nat} {lt : Nat → Int32} {ln : Nat} {tk : Nat → Nat} {σ : sgT} {k : Nat} {p : sgT × Nat} (h : rdK sec ha lt ln tk σ k = some p) : rdK sec ha lt ln tk σ (k + 1) = rdT sec ha lt ln (tk k) p := by
  show (rdK sec ha lt ln tk σ k).bind _ = _
  rw [h]; rfl
theorem rdK_n {sec : Nat → Int32} {ha : Nat} {lt : Nat → Int32} {ln : Nat} {tk : Nat → Nat} {σ : sgT} {k n : Nat} (h : rdK sec ha lt ln tk σ k = none) (hk : k ≤ n) : rdK sec ha lt ln tk σ n = none := by
  induction n with
  | zero => rw [show k = 0 by omega] at h; exact h
  | succ n ih =>
    by_cases e : k = n + 1
    · rw [← e]; exact h
    · show (rdK sec ha lt ln tk σ n).bind _ = _
      rw [ih (by omega)]; rfl
theorem rdM_n {sec : Nat → Int32} {ha ms nx : Nat} {lt : Nat → Int32} {ln : Nat} {tk : Nat → Nat} {σ : sgT} {k n : Nat} (h : rdK sec ha lt ln tk σ k = none) (hk : k ≤ n) : rdM sec ha ms nx tk n lt ln σ = none := by
  unfold rdM; rw [rdK_n h hk]; rfl
theorem rdM_s {sec : Nat → Int32} {ha ms nx : Nat} {lt : Nat → Int32} {ln : Nat} {tk : Nat → Nat} {σ : sgT} {n : Nat} {p : sgT × Nat} (h : rdK sec ha lt ln tk σ n = some p) : rdM sec ha ms nx tk n lt ln σ = rdE ha ms nx lt ln p := by
  unfold rdM; rw [h]; rfl
theorem rdT_i {sec : Nat → Int32} {ha : Nat} {lt : Nat → Int32} {ln t : Nat} {p p' : sgT × Nat} (h : rdT sec ha lt ln t p = some p') : (t = 0 ∧ p.2 + 32 ≤ ln ∧ p' = (opX p.1 (fun j => lt (p.2 + j)), p.2 + 32)) ∨ (t = 1 ∧ p.2 + nedT (hkS p.1) 1 ≤ ln ∧ p' = (opV p.1 (fun j => lt (p.2 + j)) (nedT (hkS p.1) 1), p.2 + nedT (hkS p.1) 1)) ∨ (t ≠ 0 ∧ t ≠ 1 ∧ p' = (opD sec ha t p.1, p.2)) := by
  unfold rdT at h
  by_cases h0 : t = 0
  · rw [if_pos h0] at h
    by_cases h1 : p.2 + 32 ≤ ln
    · rw [if_pos h1] at h; exact Or.inl ⟨h0, h1, (Option.some.inj h).symm⟩
    · rw [if_neg h1] at h; cases h
  · rw [if_neg h0] at h
    by_cases h2 : t = 1
    · rw [if_pos h2] at h
      by_cases h1 : p.2 + nedT (hkS p.1) 1 ≤ ln ∧ opnO p.1 (fun j => lt (p.2 + j)) (nedT (hkS p.1) 1) = true
      · rw [if_pos h1] at h; exact Or.inr (Or.inl ⟨h2, h1.1, (Option.some.inj h).symm⟩)
      · rw [if_neg h1] at h; cases h
    · rw [if_neg h2] at h; exact Or.inr (Or.inr ⟨h0, h2, (Option.some.inj h).symm⟩)
theorem rdK_i {sec : Nat → Int32} {ha : Nat} {lt : Nat → Int32} {ln : Nat} {tk : Nat → Nat} {σ : sgT} {k : Nat} {p' : sgT × Nat} (h : rdK sec ha lt ln tk σ (k + 1) = some p') : ∃ p, rdK sec ha lt ln tk σ k = some p ∧ rdT sec ha lt ln (tk k) p = some p' := by
  cases e : rdK sec ha lt ln tk σ k with
  | none => rw [rdK_n e (Nat.le_succ k)] at h; cases h
  | some p => exact ⟨p, rfl, by rw [← rdK_s e]; exact h⟩
theorem hkS_x {σ : sgT} {g : Nat → Int32} : hkS (opX σ g) = hkS σ := rfl
theorem hkS_v {σ : sgT} {g : Nat → Int32} {n : Nat} : hkS (opV σ g n) = hkS σ := rfl
theorem hkS_d {sec : Nat → Int32} {ha t : Nat} {σ : sgT} : hkS (opD sec ha t σ) = true := by unfold hkS; exact decide_eq_true rfl
theorem rdK_ls {sec : Nat → Int32} {ha : Nat} {lt : Nat → Int32} {ln : Nat} {tk : Nat → Nat} {σ : sgT} : ∀ (k : Nat) (p : sgT × Nat), rdK sec ha lt ln tk σ k = some p → lsK (hkS σ) tk k = (hkS p.1, p.2)
  | 0, p, h => by cases Option.some.inj h; rfl
  | k + 1, p', h => by
    obtain ⟨p, h1, h2⟩ := rdK_i h
    show lsT (lsK (hkS σ) tk k) (tk k) = _
    rw [rdK_ls k p h1]
    unfold lsT
    rcases rdT_i h2 with ⟨e, -, rfl⟩ | ⟨e, -, rfl⟩ | ⟨e, e2, rfl⟩
    · rw [if_pos e]; rfl
    · rw [if_neg (by omega), if_pos e]; rfl
    · rw [if_neg e, if_neg e2, hkS_d]
theorem rdK_b {sec : Nat → Int32} {ha : Nat} {lt : Nat → Int32} {ln : Nat} {tk : Nat → Nat} {σ : sgT} (hb : bS σ) (hl : ∀ j, j < ln → byt (lt j) < 256) : ∀ (k : Nat) (p : sgT × Nat), rdK sec ha lt ln tk σ k = some p → bS p.1
  | 0, p, h => by cases Option.some.inj h; exact hb
  | k + 1, p', h => by
    obtain ⟨p, h1, h2⟩ := rdK_i h
    have b := rdK_b hb hl k p h1
    rcases rdT_i h2 with ⟨e, h3, rfl⟩ | ⟨e, h3, rfl⟩ | ⟨e, e2, rfl⟩
    · exact b.x (fun j hj => hl _ (by omega))
    · refine b.v (fun j hj => hl _ ?_)
      have : 32 ≤ nedT (hkS p.1) 1 := by unfold nedT; rw [if_neg (by decide), if_pos rfl]; split <;> omega
      omega
    · exact b.d _ _ _
theorem rdK_7 {sec : Nat → Int32} {ha : Nat} {lt : Nat → Int32} {ln : Nat} {tk : Nat → Nat} {σ : sgT} {f : Nat} (hf : f = 11 ∨ f = 12 ∨ f = 13) : ∀ (k : Nat) (p : sgT × Nat), rdK sec ha lt ln tk σ k = some p → p.1 7 f = σ 7 f
  | 0, p, h => by cases Option.some.inj h; rfl
  | k + 1, p', h => by
    obtain ⟨p, h1, h2⟩ := rdK_i h
    rw [← rdK_7 hf k p h1]
    rcases rdT_i h2 with ⟨e, h3, rfl⟩ | ⟨e, h3, rfl⟩ | ⟨e, e2, rfl⟩
    · show upd (p.1 7) 8 _ f = _; unfold upd; rw [if_neg (by omega)]
    · show upd (upd (p.1 7) 10 _) 9 _ f = _; unfold upd; rw [if_neg (by omega), if_neg (by omega)]
    · show upd (upd (p.1 7) 7 _) 10 _ f = _; unfold upd; rw [if_neg (by omega), if_neg (by omega)]
theorem lsT_mono (p : Bool × Nat) (t : Nat) : p.2 ≤ (lsT p t).2 ∧ (p.1 = true → (lsT p t).1 = true) := by
  unfold lsT
  split
  · exact ⟨Nat.le_add_right _ _, fun h => h⟩
  · split
    · exact ⟨Nat.le_add_right _ _, fun h => h⟩
    · exact ⟨Nat.le_refl _, fun _ => rfl⟩
theorem lsK_mono {hk : Bool} {tk : Nat → Nat} {k n : Nat} (h : k ≤ n) : (lsK hk tk k).2 ≤ (lsK hk tk n).2 := by
  induction n with
  | zero => rw [show k = 0 by omega]; exact Nat.le_refl _
  | succ n ih =>
    by_cases e : k = n + 1
    · rw [e]; exact Nat.le_refl _
    · exact Nat.le_trans (ih (by omega)) (lsT_mono _ _).1
theorem lsO_ge (p : Bool × Nat) : p.2 ≤ lsO p := by unfold lsO; split <;> omega
theorem ls_le {hk : Bool} {tk : Nat → Nat} {k n ln : Nat} (h : k < n) (hl : lsO (lsK hk tk n) ≤ ln) : (lsT (lsK hk tk k) (tk k)).2 ≤ ln := Nat.le_trans (lsK_mono (hk := hk) (tk := tk) (show k + 1 ≤ n from h)) (Nat.le_trans (lsO_ge _) hl)
theorem cf_fx {I J : Nat → Nat → Int32} {u w : Nat} (h : cf I u w 7 14 J) : fx [u, u + 1 + 0, u + 1 + 1, u + 1 + 2, u + 1 + 3, u + 1 + 4, u + 1 + 5, u + 1 + 6] I J := by
  intro q hq
  simp only [List.mem_cons, List.mem_nil_iff, or_false, not_or] at hq
  exact h.2.2 q hq.1 (by omega)
theorem stE.cf {σ : sgT} {I J : Nat → Nat → Int32} {u w : Nat} (h : stE σ I w) (c : cf I u w 7 14 J) : stE σ J u := ⟨fun k hk j hj => (c.1 k hk j hj).trans (h.1 k hk j hj), fun f h1 h2 => (c.2.1 f h1 h2).trans (h.2 f h1 h2)⟩
theorem rdE_1 {ha ms nx : Nat} {lt : Nat → Int32} {ln : Nat} {p : sgT × Nat} (h1 : hkS p.1 = true → p.2 + 16 ≤ ln) (h2 : opnO p.1 (fun j => lt (p.2 + j)) (ln - p.2) = true) : rdE ha ms nx lt ln p = some (opZ ha ms nx (opR p.1 (fun j => lt (p.2 + j)) (ln - p.2)), opnF p.1 (fun j => lt (p.2 + j)), opN (hkS p.1) (ln - p.2)) := if_pos ⟨h1, h2⟩
theorem rdE_0 {ha ms nx : Nat} {lt : Nat → Int32} {ln : Nat} {p : sgT × Nat} (h2 : opnO p.1 (fun j => lt (p.2 + j)) (ln - p.2) = false) : rdE ha ms nx lt ln p = none := if_neg (fun h => by rw [h2] at h; cases h.2)
theorem opR_7 {σ : sgT} {f : Nat → Int32} {m i : Nat} (h : i ≠ 10) : opR σ f m 7 i = σ 7 i := by
  unfold opR; rw [sFl_s]; unfold upd; rw [if_neg h, sgR_n (by decide)]
theorem nedT_T {hk : Bool} (h : hk = true) : nedT hk 1 = 48 := by subst h; rfl
theorem nedT_F {hk : Bool} (h : hk = false) : nedT hk 1 = 32 := by subst h; rfl
set_option maxHeartbeats 4000000 in
set_option maxRecDepth 100000 in
theorem ok_X9_take {l : Launch} {a0 : Nat} {D : va_G} {sa : Nat → Nat} {T : Nat → Option hKd} {I : Nat → Nat → Int32} {L : Nat → Nat → Int64} {R : Nat → Nat → Option Nat} {A : Nat → Nat} (xO : isX T R A a0) (hsa : ∀ k, k < 5 → sa k = A (90 + k)) (S P : Nat) (hSd : isSd T R A a0 S P) (ha : Nat) (hha : I S 2 = nI ha) (ha2 : ha < 2) (hS3 : 300 ≤ S) (hP : isPt T R A a0 P) (kn : Nat → Bool) (ms : Nat) (sz : Nat → Nat) (tk : Nat → Nat → Nat) (hs : Bool) (hI : ptI I P kn ms sz tk hs) (hP2 : P + 10 ≤ 300) (hP1 : 200 ≤ P) (hst : stI I) (cp cq cr cs : Nat) (h4 : cv4 R cp cq cr cs) (σ : sgT) (hσ : stE σ I (S + 4)) (hb : bS σ) (nx : Nat) (hnx : σ 7 13 = nI nx) (hnm : nx < ms) (sec : Nat → Int32) (hsec : ∀ j, j < 32 → I (S + 1) j = sec j) (ln : Nat) (hln : I 105 1 = nI ln) (hl160 : ln ≤ 160) (lt : Nat → Int32) (hlt : ∀ j, j < ln → I 106 j = lt j) (hlb : ∀ j, j < ln → byt (lt j) < 256) (hls : lsO (lsK (hkS σ) (tk nx) (sz nx)) ≤ ln) : hM l a0 D sa yX9_take cX9_take 9 (some .boolean) { frames := 6, cells := 0, slots := 0, locals := 213 } [.ref (A 109), .ref (A S), .ref (A 105), .ref (A 107)] (T, I, L, R, A) (fun r G' => ∃ I' L' R', G' = (T, I', L', R', A) ∧ (fr121 R R' ∧ ∃ p q r s, cv4 R' p q r s) ∧ ((r = some (.int (nI 0)) ∧ rdM sec ha ms nx (tk nx) (sz nx) lt ln σ = none ∧ fx [111, 112, 113, 115, 116, 117, 118, 119, 120, 122, 133, 134, 135, 136, 141, 142, 143, 144, 145, 146, 147, 148, 149, 150, 152, 153, 154] I I') ∨ (r = some (.int (nI 1)) ∧ ∃ M, rdM sec ha ms nx (tk nx) (sz nx) lt ln σ = some M ∧ stE M.1 I' (S + 4) ∧ I' 107 1 = nI M.2.2 ∧ (∀ j, j < M.2.2 → I' 108 j = M.2.1 j) ∧ fx [107, 108, 111, 112, 113, 115, 116, 117, 118, 119, 120, 122, 133, 134, 135, 136, 141, 142, 143, 144, 145, 146, 147, 148, 149, 150, 152, 153, 154, S + 4, S + 4 + 1 + 0, S + 4 + 1 + 1, S + 4 + 1 + 2, S + 4 + 1 + 3, S + 4 + 1 + 4, S + 4 + 1 + 5, S + 4 + 1 + 6] I I'))) := by
  refine hM.of (by decide +kernel) (Nat.le_of_ble_eq_true rfl) ?_
  intro z hl h0 hD hS hN C E
  subst hl; subst h0; subst hD; subst hS
  have C : hC z RX9 cX9_take := C
  have hZ := E.2.2.2.1
  show hX z 0 0 (T, I, L, R, A) [(0, .ref (A 109)), (1, .ref (A S)), (2, .ref (A 105)), (3, .ref (A 107))] 0 []
  have hms6 := hI.2.2.2.1
  have hsz5 := hI.2.2.2.2.1 nx
  refine x_aload_n C dX9_take_0 0 rfl rfl ?_
  refine x_getrN C fl_X9_42 (xO.1 109 _ rfl).1 rfl (xO.2.1 109 4 _ rfl) dX9_take_1 ?_
  refine x_aload_n C dX9_take_4 1 rfl rfl ?_
  refine x_getrN C fl_X9_101 hSd.1.1 rfl hSd.2.1.2.2.2.2 dX9_take_5 ?_
  refine x_callV C (ok_X7_copyFrom 143 (S + 4) xO.tr hSd.2.2.2 (by omega) (fun k h1 h2 => by rw [hσ.2 k h1 (by omega)]; exact hb.2.2.2 k h1 h2)) mv_X7_copyFrom ml_X9_192 (xO.1 143 _ rfl).1 rfl rfl rfl (Nat.le_of_ble_eq_true rfl) (hrm (rm := { frames := 0, cells := 0, slots := 0, locals := 0 }) hZ ⟨Nat.le_of_ble_eq_true rfl, Nat.le_of_ble_eq_true rfl⟩) (hcs hZ ⟨Nat.le_of_ble_eq_true rfl, Nat.le_of_ble_eq_true rfl⟩) dX9_take_8 (fun v G' hp => ?_)
  obtain ⟨rfl, J0, rfl, c0⟩ := hp
  have e0 : stE σ J0 143 := hσ.cf c0
  have f0 : fx [111, 112, 113, 115, 116, 117, 118, 119, 120, 122, 133, 134, 135, 136, 141, 142, 143, 144, 145, 146, 147, 148, 149, 150, 152, 153, 154] I J0 := (cf_fx c0).wk (by simp)
  show hX z 0 0 (T, J0, L, R, A) [(0, .ref (A 109)), (1, .ref (A S)), (2, .ref (A 105)), (3, .ref (A 107))] 11 []
  refine x_iconst (v := nI 0) C dX9_take_11 (by decide +kernel) ?_
  refine x_istore (lv' := [(4, .int (nI 0)), (0, .ref (A 109)), (1, .ref (A S)), (2, .ref (A 105)), (3, .ref (A 107))]) C dX9_take_12 (Nat.lt_of_lt_of_eq (by decide) hN.symm) rfl ?_
  refine x_aload_n C dX9_take_14 2 rfl rfl ?_
  refine x_getrN C fl_X9_145 hSd.1.1 rfl hSd.2.1.1 dX9_take_15 ?_
  refine x_aload_n C dX9_take_18 1 rfl rfl ?_
  refine x_getrN C fl_X9_42 (xO.1 109 _ rfl).1 rfl (xO.2.1 109 4 _ rfl) dX9_take_19 ?_
  refine x_getiN C fl_X9_142 (xO.1 143 _ rfl).1 rfl dX9_take_22 ?_
  refine x_eqi (y := nI nx) (by rw [e0.2 13 (by decide) (by decide)]; exact hnx) ?_
  refine x_callV C (ok_X3_sizeOf P hP kn ms sz tk hs (ptI.fx hI f0 (by simp <;> omega) (by simp <;> omega) (fun m hm => by simp <;> omega)) nx (by omega)) mv_X3_sizeOf ml_X9_165 hP.1.1 rfl rfl rfl (Nat.le_of_ble_eq_true rfl) (hrm (rm := { frames := 0, cells := 0, slots := 0, locals := 0 }) hZ ⟨Nat.le_of_ble_eq_true rfl, Nat.le_of_ble_eq_true rfl⟩) (hcs hZ ⟨Nat.le_of_ble_eq_true rfl, Nat.le_of_ble_eq_true rfl⟩) dX9_take_25 (fun v G' hp => ?_)
  obtain ⟨rfl, rfl⟩ := hp
  show hX z 0 0 (T, J0, L, R, A) [(4, .int (nI 0)), (0, .ref (A 109)), (1, .ref (A S)), (2, .ref (A 105)), (3, .ref (A 107))] 28 [.int (szF ms sz nx)]
  refine x_eqi (y := nI (sz nx)) (by unfold szF; rw [if_pos hnm]) ?_
  refine x_istore (lv' := [(5, .int (nI (sz nx))), (4, .int (nI 0)), (0, .ref (A 109)), (1, .ref (A S)), (2, .ref (A 105)), (3, .ref (A 107))]) C dX9_take_28 (Nat.lt_of_lt_of_eq (by decide) hN.symm) rfl ?_
  refine x_iconst (v := nI 0) C dX9_take_30 (by decide +kernel) ?_
  refine x_istore (lv' := [(6, .int (nI 0)), (5, .int (nI (sz nx))), (4, .int (nI 0)), (0, .ref (A 109)), (1, .ref (A S)), (2, .ref (A 105)), (3, .ref (A 107))]) C dX9_take_31 (Nat.lt_of_lt_of_eq (by decide) hN.symm) rfl ?_
  have L33 : ∀ (fuel_ : Nat) (a : Nat) (k : Nat) (J : Nat → Nat → Int32) (K : Nat → Nat → Int64) (Q : Nat → Nat → Option Nat) (τ : sgT), sz nx - k < fuel_ → (k ≤ sz nx) → (rdK sec ha lt ln (tk nx) σ k = some (τ, a)) → (stE τ J 143) → (fx [111, 112, 113, 115, 116, 117, 118, 119, 120, 122, 133, 134, 135, 136, 141, 142, 143, 144, 145, 146, 147, 148, 149, 150, 152, 153, 154] I J) → (fr121 R Q) → (∃ p q r s, cv4 Q p q r s) → hX z 0 0 (T, J, K, Q, A) [(6, .int (nI k)), (5, .int (nI (sz nx))), (4, .int (nI a)), (0, .ref (A 109)), (1, .ref (A S)), (2, .ref (A 105)), (3, .ref (A 107))] 33 [] := by
    intro fuel_
    induction fuel_ with
    | zero => intro a k J K Q τ hmz; exact absurd hmz (Nat.not_lt_zero _)
    | succ fuel_ ih33 =>
      intro a k J K Q τ hmz hk hM hE hf hr hcv
      clear h4
      obtain ⟨cp, cq, cr, cs, h4⟩ := hcv
      have xO := isX.r121 xO hr
      have hSd := isSd.r121 hSd hS3 hr
      have hP := isPt.r121 hP hP1 hr
      have hbt : bS τ := rdK_b hb hlb k _ hM
      have h13 : τ 7 13 = σ 7 13 := rdK_7 (by omega) k _ hM
      refine x_iload C dX9_take_33 0 rfl ?_
      refine x_iload C dX9_take_35 1 rfl ?_
      refine x_icmp_geN (tgt := 175) C (by omega) (by omega) dX9_take_37 (by decide) (fun c37 => ?_) (fun c37 => ?_)
      · have h16f : hkS τ = true → a + 16 ≤ ln := fun h => by
          have ek : k = sz nx := by omega
          have h1 := hls
          rw [← ek, rdK_ls k _ hM, show ((τ, a) : sgT × Nat).1 = τ from rfl, h] at h1
          exact h1
        have hal : a ≤ ln := by
          have ek : k = sz nx := by omega
          have h1 := Nat.le_trans (lsO_ge _) hls
          rw [← ek, rdK_ls k _ hM] at h1
          exact h1
        refine x_aload_n C dX9_take_175 3 rfl rfl ?_
        refine x_aload_n C dX9_take_176 3 rfl rfl ?_
        refine x_getrN C fl_X9_42 (xO.1 109 _ rfl).1 rfl (xO.2.1 109 4 _ rfl) dX9_take_177 ?_
        refine x_aload_n C dX9_take_180 5 rfl rfl ?_
        refine x_iload C dX9_take_181 2 rfl ?_
        refine x_aload_n C dX9_take_183 5 rfl rfl ?_
        refine x_getiN C fl_X9_162 (xO.1 105 _ rfl).1 rfl dX9_take_184 ?_
        refine x_eqi (y := nI ln) (by rw [hf 105 (by decide)]; exact hln) ?_
        refine x_aload_n C dX9_take_187 6 rfl rfl ?_
        refine x_callV C (ok_X9_open xO hsa 143 xO.tr (by decide) (Or.inl rfl) (hf.st (by decide) hst) a (ln) ln (by rw [hf 105 (by decide)]; exact hln) hl160 (by omega) (by omega) (hkS τ) (τ 7 10) (by rw [hE.2 7 (by decide) (by decide)]; exact hkS_b hbt) (hE.2 10 (by decide) (by decide)) h16f (fun j j1 j2 => by rw [hf 106 (by decide), hlt j (by omega)]; exact hlb j (by omega)) (fun j hj => by rw [hE.1 1 (by decide) j hj]; exact hbt.1 j hj) 107 108 160 (xO.1 107 _ rfl).1 (xO.2.1 107 0 _ rfl) (xO.1 108 _ rfl).1 (xO.1 107 _ rfl).2 (xO.1 108 _ rfl).2 (Or.inl ⟨rfl, rfl, rfl⟩) (fun _ => by omega) (fun _ => by omega)) mv_X9_open ml_X9_200 (xO.1 109 _ rfl).1 rfl rfl rfl (Nat.le_of_ble_eq_true rfl) (hrm (rm := { frames := 0, cells := 0, slots := 0, locals := 0 }) hZ ⟨Nat.le_of_ble_eq_true rfl, Nat.le_of_ble_eq_true rfl⟩) (hcs hZ ⟨Nat.le_of_ble_eq_true rfl, Nat.le_of_ble_eq_true rfl⟩) dX9_take_188 (fun v G' hp => ?_)
        obtain ⟨J2, L1, rfl, oL, hq⟩ := hp
        rcases hq with ⟨rfl, oK, oT, q5⟩ | ⟨rfl, oT, ob, oh, o1, ou, q5⟩
        · have hg : ∀ j, j < ln - a → J 106 (a + j) = lt (a + j) := fun j hj => by rw [hf 106 (by decide)]; exact hlt _ (by omega)
          have en : ln - a = ln - a := by omega
          have oB : opnO τ (fun j => lt (a + j)) (ln - a) = false := Bool.eq_false_iff.mpr (fun h => by rw [en] at oT; exact oT ((opn_c hE rfl hg (fun h => by have := h16f h; omega) oK).mpr (opnO_iff.mp h oK)))
          show hX z 0 0 (T, J2, L1, Q, A) [(6, .int (nI k)), (5, .int (nI (sz nx))), (4, .int (nI a)), (0, .ref (A 109)), (1, .ref (A S)), (2, .ref (A 105)), (3, .ref (A 107))] 191 [.int (nI 0)]
          refine x_if_neN (tgt := 196) C (by omega) dX9_take_191 (by decide) (fun c191 => absurd c191 (by omega)) (fun c191 => ?_)
          refine x_iconst (v := nI 0) C dX9_take_194 (by decide +kernel) ?_
          exact x_zret C E (by first | exact Or.inl rfl | exact Or.inr rfl | assumption) (Nat.le_of_ble_eq_true rfl) (Nat.le_of_ble_eq_true rfl) dX9_take_195 (by
                have ek : k = sz nx := by omega
                subst ek
                exact ⟨J2, L1, Q, rfl, ⟨hr, cp, cq, cr, cs, h4⟩, Or.inl ⟨rfl, by rw [rdM_s hM]; exact rdE_0 oB, hf.tr q5 (by simp)⟩⟩)
        · have hg : ∀ j, j < ln - a → J 106 (a + j) = lt (a + j) := fun j hj => by rw [hf 106 (by decide)]; exact hlt _ (by omega)
          have en : ln - a = ln - a := by omega
          have oB : opnO τ (fun j => lt (a + j)) (ln - a) = true := opnO_iff.mpr (fun h => by rw [en] at oT; exact (opn_c hE rfl hg (fun h => by have := h16f h; omega) h).mp (oT h))
          have n1 : stE (opR τ (fun j => lt (a + j)) (ln - a)) J2 143 := hE.r rfl rfl hg o1 ou q5 (by intro k h1 h2; simp; omega)
          show hX z 0 0 (T, J2, L1, Q, A) [(6, .int (nI k)), (5, .int (nI (sz nx))), (4, .int (nI a)), (0, .ref (A 109)), (1, .ref (A S)), (2, .ref (A 105)), (3, .ref (A 107))] 191 [.int (nI 1)]
          refine x_if_neN (tgt := 196) C (by omega) dX9_take_191 (by decide) (fun c191 => ?_) (fun c191 => absurd c191 (by omega))
          refine x_aload_n C dX9_take_196 3 rfl rfl ?_
          refine x_aload_n C dX9_take_197 4 rfl rfl ?_
          refine x_aload_n C dX9_take_198 3 rfl rfl ?_
          refine x_getrN C fl_X9_42 (xO.1 109 _ rfl).1 rfl (xO.2.1 109 4 _ rfl) dX9_take_199 ?_
          refine x_callV C (ok_X9_endMessage xO hsa S P hSd ha (by rw [q5 S (by simp <;> omega), hf S (by simp <;> omega)]; exact hha) ha2 hS3 143 xO.tr (by decide) (Or.inl rfl) hP.1.1 (by omega) hP1 (q5.st (by decide) (hf.st (by decide) hst)) ms nx (by rw [q5 P (by simp <;> omega), hf P (by simp <;> omega)]; exact hI.1.2.2.1) (by rw [n1.2 13 (by decide) (by decide), opR_7 (by decide), h13]; exact hnx) ⟨by omega, by omega⟩) mv_X9_endMessage ml_X9_188 (xO.1 109 _ rfl).1 rfl rfl rfl (Nat.le_of_ble_eq_true rfl) (hrm (rm := { frames := 0, cells := 0, slots := 0, locals := 0 }) hZ ⟨Nat.le_of_ble_eq_true rfl, Nat.le_of_ble_eq_true rfl⟩) (hcs hZ ⟨Nat.le_of_ble_eq_true rfl, Nat.le_of_ble_eq_true rfl⟩) dX9_take_202 (fun v G' hp => ?_)
          obtain ⟨rfl, JZ, rfl, z1⟩ := hp
          have fz := endM_fx z1
          have ez := n1.z ha2 z1 (by decide)
          show hX z 0 0 (T, JZ, L1, Q, A) [(6, .int (nI k)), (5, .int (nI (sz nx))), (4, .int (nI a)), (0, .ref (A 109)), (1, .ref (A S)), (2, .ref (A 105)), (3, .ref (A 107))] 205 []
          refine x_aload_n C dX9_take_205 4 rfl rfl ?_
          refine x_getrN C fl_X9_101 hSd.1.1 rfl hSd.2.1.2.2.2.2 dX9_take_206 ?_
          refine x_aload_n C dX9_take_209 3 rfl rfl ?_
          refine x_getrN C fl_X9_42 (xO.1 109 _ rfl).1 rfl (xO.2.1 109 4 _ rfl) dX9_take_210 ?_
          refine x_callV C (ok_X7_copyFrom (S + 4) 143 hSd.2.2.2 xO.tr (by omega) (fun k h1 h2 => by rw [ez.2 k h1 (by omega)]; exact ((hbt.r _ _).z _ _ _).2.2.2 k h1 h2)) mv_X7_copyFrom ml_X9_192 hSd.2.2.2.1 rfl rfl rfl (Nat.le_of_ble_eq_true rfl) (hrm (rm := { frames := 0, cells := 0, slots := 0, locals := 0 }) hZ ⟨Nat.le_of_ble_eq_true rfl, Nat.le_of_ble_eq_true rfl⟩) (hcs hZ ⟨Nat.le_of_ble_eq_true rfl, Nat.le_of_ble_eq_true rfl⟩) dX9_take_213 (fun v G' hp => ?_)
          obtain ⟨rfl, J9, rfl, c9⟩ := hp
          show hX z 0 0 (T, J9, L1, Q, A) [(6, .int (nI k)), (5, .int (nI (sz nx))), (4, .int (nI a)), (0, .ref (A 109)), (1, .ref (A S)), (2, .ref (A 105)), (3, .ref (A 107))] 216 []
          refine x_iconst (v := nI 1) C dX9_take_216 (by decide +kernel) ?_
          exact x_zret C E (by first | exact Or.inl rfl | exact Or.inr rfl | assumption) (Nat.le_of_ble_eq_true rfl) (Nat.le_of_ble_eq_true rfl) dX9_take_217 (by
              have ek : k = sz nx := by omega
              subst ek
              have f2 : fx [107, 108, 111, 112, 113, 115, 116, 117, 118, 119, 120, 122, 133, 134, 135, 136, 141, 142, 143, 144, 145, 146, 147, 148, 149, 150, 152, 153, 154, S + 4, S + 4 + 1 + 0, S + 4 + 1 + 1, S + 4 + 1 + 2, S + 4 + 1 + 3, S + 4 + 1 + 4, S + 4 + 1 + 5, S + 4 + 1 + 6] I J2 := (hf.wk (by simp)).tr q5 (by simp)
              have f3 : fx [107, 108, 111, 112, 113, 115, 116, 117, 118, 119, 120, 122, 133, 134, 135, 136, 141, 142, 143, 144, 145, 146, 147, 148, 149, 150, 152, 153, 154, S + 4, S + 4 + 1 + 0, S + 4 + 1 + 1, S + 4 + 1 + 2, S + 4 + 1 + 3, S + 4 + 1 + 4, S + 4 + 1 + 5, S + 4 + 1 + 6] I JZ := f2.tr fz (by simp)
              have f9 := cf_fx c9
              refine ⟨J9, L1, Q, rfl, ⟨hr, cp, cq, cr, cs, h4⟩, Or.inr ⟨rfl, _, by rw [rdM_s hM]; exact rdE_1 h16f oB, ez.cf c9, ?_, fun j hj => ?_, f3.tr f9 (by simp)⟩⟩
              · rw [f9 107 (by simp <;> omega), fz 107 (by simp <;> omega), oh]; simp [upd]
              · rw [f9 108 (by simp <;> omega), fz 108 (by simp <;> omega), ob j, if_pos hj]
                show opF (hkS τ) (J (143 + 1 + 2)) (τ 7 10) (fun j => J 106 (a + j)) j = opF (hkS τ) (τ 2) (τ 7 10) (fun j => lt (a + j)) j
                refine opF_cg (fun i hi => hE.1 2 (by decide) i hi) (hg j ?_)
                have hj : j < opN (hkS τ) (ln - a) := hj
                unfold opN at hj; split at hj <;> omega)
      · refine x_aload_n C dX9_take_40 4 rfl rfl ?_
        refine x_getrN C fl_X9_145 hSd.1.1 rfl hSd.2.1.1 dX9_take_41 ?_
        refine x_aload_n C dX9_take_44 3 rfl rfl ?_
        refine x_getrN C fl_X9_42 (xO.1 109 _ rfl).1 rfl (xO.2.1 109 4 _ rfl) dX9_take_45 ?_
        refine x_getiN C fl_X9_142 (xO.1 143 _ rfl).1 rfl dX9_take_48 ?_
        refine x_eqi (y := nI nx) (by rw [hE.2 13 (by decide) (by decide), h13]; exact hnx) ?_
        refine x_iload C dX9_take_51 0 rfl ?_
        refine x_callV C (ok_X3_tokenAt P hP kn ms sz tk hs (ptI.fx hI hf (by simp <;> omega) (by simp <;> omega) (fun m hm => by simp <;> omega)) nx k (by omega) (by omega)) mv_X3_tokenAt ml_X9_169 hP.1.1 rfl rfl rfl (Nat.le_of_ble_eq_true rfl) (hrm (rm := { frames := 0, cells := 0, slots := 0, locals := 0 }) hZ ⟨Nat.le_of_ble_eq_true rfl, Nat.le_of_ble_eq_true rfl⟩) (hcs hZ ⟨Nat.le_of_ble_eq_true rfl, Nat.le_of_ble_eq_true rfl⟩) dX9_take_53 (fun v G' hp => ?_)
        obtain ⟨rfl, rfl⟩ := hp
        show hX z 0 0 (T, J, K, Q, A) [(6, .int (nI k)), (5, .int (nI (sz nx))), (4, .int (nI a)), (0, .ref (A 109)), (1, .ref (A S)), (2, .ref (A 105)), (3, .ref (A 107))] 56 [.int (tkF ms sz tk nx k)]
        refine x_eqi (y := nI (tk nx k)) (by unfold tkF; rw [if_pos ⟨hnm, c37⟩]) ?_
        refine x_istore (lv' := [(7, .int (nI (tk nx k))), (6, .int (nI k)), (5, .int (nI (sz nx))), (4, .int (nI a)), (0, .ref (A 109)), (1, .ref (A S)), (2, .ref (A 105)), (3, .ref (A 107))]) C dX9_take_56 (Nat.lt_of_lt_of_eq (by decide) hN.symm) rfl ?_
        have htk5 := hI.2.2.2.2.2.1 nx k
        have hll := ls_le c37 hls
        rw [rdK_ls k _ hM] at hll
        unfold lsT at hll
        refine x_iload C dX9_take_58 0 rfl ?_
        refine x_if_neN (tgt := 76) C (by omega) dX9_take_60 (by decide) (fun c60 => ?_) (fun c60 => ?_)
        · refine x_iload C dX9_take_76 0 rfl ?_
          refine x_iconst (v := nI 1) C dX9_take_78 (by decide +kernel) ?_
          refine x_icmp_neN (tgt := 158) C (by omega) (by omega) dX9_take_79 (by decide) (fun c79 => ?_) (fun c79 => ?_)
          · refine x_aload_n C dX9_take_158 4 rfl rfl ?_
            refine x_aload_n C dX9_take_159 5 rfl rfl ?_
            refine x_aload_n C dX9_take_160 4 rfl rfl ?_
            refine x_getrN C fl_X9_42 (xO.1 109 _ rfl).1 rfl (xO.2.1 109 4 _ rfl) dX9_take_161 ?_
            refine x_iload C dX9_take_164 0 rfl ?_
            refine x_callV C (ok_X9_mixDh xO hsa S P hSd ha (by rw [hf S (by simp <;> omega)]; exact hha) ha2 hS3 143 xO.tr (by decide) (Or.inl rfl) cp cq cr cs h4 (hf.st (by decide) hst) (tk nx k) ⟨by omega, by omega⟩ (fun j hj => by rw [hE.1 5 (by decide) j hj]; exact hbt.2.1 j hj) (fun _ j hj => by rw [hE.1 6 (by decide) j hj]; exact hbt.2.2.1 j hj)) mv_X9_mixDh ml_X9_181 (xO.1 109 _ rfl).1 rfl rfl rfl (Nat.le_of_ble_eq_true rfl) (hrm (rm := { frames := 0, cells := 0, slots := 0, locals := 0 }) hZ ⟨Nat.le_of_ble_eq_true rfl, Nat.le_of_ble_eq_true rfl⟩) (hcs hZ ⟨Nat.le_of_ble_eq_true rfl, Nat.le_of_ble_eq_true rfl⟩) dX9_take_166 (fun v G' hp => ?_)
            obtain ⟨rfl, JD, LD, QD, rfl, q1, q2, q5, q7, q8, q9⟩ := hp
            have n0 : rdK sec ha lt ln (tk nx) σ (k + 1) = some (opD sec ha (tk nx k) τ, a) := by rw [rdK_s hM]; unfold rdT; rw [if_neg c60, if_neg c79]
            have n1 : stE (opD sec ha (tk nx k) τ) JD 143 := hE.d (dhS_c hE (fun j hj => by rw [hf (S + 1) (by simp <;> omega)]; exact hsec j hj)) q1 q2 q5 q7 (by intro k h1 h2 h3; simp; omega)
            have n4 : fx [111, 112, 113, 115, 116, 117, 118, 119, 120, 122, 133, 134, 135, 136, 141, 142, 143, 144, 145, 146, 147, 148, 149, 150, 152, 153, 154] I JD := hf.tr q7 (by simp)
            show hX z 0 0 (T, JD, LD, QD, A) [(7, .int (nI (tk nx k))), (6, .int (nI k)), (5, .int (nI (sz nx))), (4, .int (nI a)), (0, .ref (A 109)), (1, .ref (A S)), (2, .ref (A 105)), (3, .ref (A 107))] 169 []
            refine x_iinc (v := nI (k + 1)) (lv' := [(6, .int (nI (k + 1))), (7, .int (nI (tk nx k))), (5, .int (nI (sz nx))), (4, .int (nI a)), (0, .ref (A 109)), (1, .ref (A S)), (2, .ref (A 105)), (3, .ref (A 107))]) C dX9_take_169 1 rfl (nI_inc 1) (Nat.lt_of_lt_of_eq (by decide) hN.symm) rfl ?_
            refine x_goto (tgt := 33) C dX9_take_172 (by decide) ?_
            refine x_sub (lv' := _) [0, 2, 3, 4, 5, 6, 7] rfl ?_
            exact ih33 a (k + 1) JD LD QD (opD sec ha (tk nx k) τ) (by omega) (by omega) n0 n1 n4 (hr.tr q8) q9
          · rw [if_neg c60, if_pos c79] at hll
            have hfit : a + (if hkS τ then 48 else 32) ≤ ln := hll
            refine x_iload C dX9_take_82 3 rfl ?_
            refine x_aload_n C dX9_take_84 4 rfl rfl ?_
            refine x_getrN C fl_X9_42 (xO.1 109 _ rfl).1 rfl (xO.2.1 109 4 _ rfl) dX9_take_85 ?_
            refine x_getiN C fl_X9_135 (xO.1 143 _ rfl).1 rfl dX9_take_88 ?_
            refine x_eqi (y := bI (hkS τ)) (by rw [hE.2 7 (by decide) (by decide)]; exact hkS_b hbt) ?_
            refine x_if_eq (tgt := 99) C dX9_take_91 (by decide) (fun c91 => ?_) (fun c91 => ?_)
            · rw [bI_F c91] at hfit
              have hfit : a + 32 ≤ ln := hfit
              refine x_bipush (v := nI 32) C dX9_take_99 (by decide +kernel) ?_
              refine x_iaddN C dX9_take_101 ?_
              refine x_istore (lv' := [(8, .int (nI (a + 32))), (7, .int (nI (tk nx k))), (6, .int (nI k)), (5, .int (nI (sz nx))), (4, .int (nI a)), (0, .ref (A 109)), (1, .ref (A S)), (2, .ref (A 105)), (3, .ref (A 107))]) C dX9_take_102 (Nat.lt_of_lt_of_eq (by decide) hN.symm) rfl ?_
              refine x_aload_n C dX9_take_104 5 rfl rfl ?_
              refine x_aload_n C dX9_take_105 5 rfl rfl ?_
              refine x_getrN C fl_X9_42 (xO.1 109 _ rfl).1 rfl (xO.2.1 109 4 _ rfl) dX9_take_106 ?_
              refine x_aload_n C dX9_take_109 7 rfl rfl ?_
              refine x_iload C dX9_take_110 4 rfl ?_
              refine x_iload C dX9_take_112 0 rfl ?_
              refine x_aload_n C dX9_take_114 5 rfl rfl ?_
              refine x_getrN C fl_X9_58 (xO.1 109 _ rfl).1 rfl (xO.2.1 109 7 _ rfl) dX9_take_115 ?_
              refine x_callV C (ok_X9_open xO hsa 143 xO.tr (by decide) (Or.inl rfl) (hf.st (by decide) hst) a (a + 32) ln (by rw [hf 105 (by decide)]; exact hln) hl160 (by omega) (by omega) (hkS τ) (τ 7 10) (by rw [hE.2 7 (by decide) (by decide)]; exact hkS_b hbt) (hE.2 10 (by decide) (by decide)) (fun _ => by omega) (fun j j1 j2 => by rw [hf 106 (by decide), hlt j (by omega)]; exact hlb j (by omega)) (fun j hj => by rw [hE.1 1 (by decide) j hj]; exact hbt.1 j hj) 153 154 32 (xO.1 153 _ rfl).1 (xO.2.1 153 0 _ rfl) (xO.1 154 _ rfl).1 (xO.1 153 _ rfl).2 (xO.1 154 _ rfl).2 (Or.inr ⟨rfl, rfl, rfl⟩) (fun _ => by omega) (fun _ => by omega)) mv_X9_open ml_X9_200 (xO.1 109 _ rfl).1 rfl rfl rfl (Nat.le_of_ble_eq_true rfl) (hrm (rm := { frames := 0, cells := 0, slots := 0, locals := 0 }) hZ ⟨Nat.le_of_ble_eq_true rfl, Nat.le_of_ble_eq_true rfl⟩) (hcs hZ ⟨Nat.le_of_ble_eq_true rfl, Nat.le_of_ble_eq_true rfl⟩) dX9_take_118 (fun v G' hp => ?_)
              obtain ⟨J2, L1, rfl, oL, hq⟩ := hp
              rcases hq with ⟨rfl, oK, oT, q5⟩ | ⟨rfl, oT, ob, oh, o1, ou, q5⟩
              · have hkt : hkS τ = false := bI_F c91
                have hg : ∀ j, j < 32 → J 106 (a + j) = lt (a + j) := fun j hj => by rw [hf 106 (by decide)]; exact hlt _ (by omega)
                have en : a + 32 - a = 32 := by omega
                have oB : opnO τ (fun j => lt (a + j)) (32) = false := Bool.eq_false_iff.mpr (fun h => by rw [en] at oT; exact oT ((opn_c hE rfl hg (fun _ => by decide) oK).mpr (opnO_iff.mp h oK)))
                have nd : nedT (hkS τ) 1 = 32 := nedT_F hkt
                have n0 : rdK sec ha lt ln (tk nx) σ (k + 1) = none := by rw [rdK_s hM]; unfold rdT; rw [if_neg c60, if_pos c79, if_neg (fun h => by have := h.2; simp only [nd] at this; rw [oB] at this; cases this)]
                show hX z 0 0 (T, J2, L1, Q, A) [(8, .int (nI (a + 32))), (7, .int (nI (tk nx k))), (6, .int (nI k)), (5, .int (nI (sz nx))), (4, .int (nI a)), (0, .ref (A 109)), (1, .ref (A S)), (2, .ref (A 105)), (3, .ref (A 107))] 121 [.int (nI 0)]
                refine x_if_neN (tgt := 126) C (by omega) dX9_take_121 (by decide) (fun c121 => absurd c121 (by omega)) (fun c121 => ?_)
                refine x_iconst (v := nI 0) C dX9_take_124 (by decide +kernel) ?_
                exact x_zret C E (by first | exact Or.inl rfl | exact Or.inr rfl | assumption) (Nat.le_of_ble_eq_true rfl) (Nat.le_of_ble_eq_true rfl) dX9_take_125 (⟨J2, L1, Q, rfl, ⟨hr, cp, cq, cr, cs, h4⟩, Or.inl ⟨rfl, rdM_n n0 (by omega), hf.tr q5 (by simp)⟩⟩)
              · have hkt : hkS τ = false := bI_F c91
                have hg : ∀ j, j < 32 → J 106 (a + j) = lt (a + j) := fun j hj => by rw [hf 106 (by decide)]; exact hlt _ (by omega)
                have en : a + 32 - a = 32 := by omega
                have oB : opnO τ (fun j => lt (a + j)) (32) = true := opnO_iff.mpr (fun h => by rw [en] at oT; exact (opn_c hE rfl hg (fun _ => by decide) h).mp (oT h))
                have nd : nedT (hkS τ) 1 = 32 := nedT_F hkt
                have n0 : rdK sec ha lt ln (tk nx) σ (k + 1) = some (opV τ (fun j => lt (a + j)) (32), a + 32) := by rw [rdK_s hM]; unfold rdT; rw [if_neg c60, if_pos c79, if_pos ⟨by show a + nedT (hkS τ) 1 ≤ ln; rw [nd]; omega, by show opnO τ (fun j => lt (a + j)) (nedT (hkS τ) 1) = true; rw [nd]; exact oB⟩]; show some (opV τ (fun j => lt (a + j)) (nedT (hkS τ) 1), a + nedT (hkS τ) 1) = _; rw [nd]
                rw [en] at o1 ob
                have n1 : stE (opR τ (fun j => lt (a + j)) (32)) J2 143 := hE.r rfl rfl hg o1 ou q5 (by intro k h1 h2; simp; omega)
                have n2 : ∀ j, j < 32 → J2 154 j = opnF τ (fun j => lt (a + j)) j := fun j hj => by rw [ob j, if_pos (by rw [show opN (hkS τ) 32 = 32 from by rw [hkt]; rfl]; exact hj)]; exact opF_cg (fun i hi => hE.1 2 (by decide) i hi) (hg j (by omega))
                have n4 : fx [111, 112, 113, 115, 116, 117, 118, 119, 120, 122, 133, 134, 135, 136, 141, 142, 143, 144, 145, 146, 147, 148, 149, 150, 152, 153, 154] I J2 := hf.tr q5 (by simp)
                show hX z 0 0 (T, J2, L1, Q, A) [(8, .int (nI (a + 32))), (7, .int (nI (tk nx k))), (6, .int (nI k)), (5, .int (nI (sz nx))), (4, .int (nI a)), (0, .ref (A 109)), (1, .ref (A S)), (2, .ref (A 105)), (3, .ref (A 107))] 121 [.int (nI 1)]
                refine x_if_neN (tgt := 126) C (by omega) dX9_take_121 (by decide) (fun c121 => ?_) (fun c121 => absurd c121 (by omega))
                refine x_aload_n C dX9_take_126 5 rfl rfl ?_
                refine x_getrN C fl_X9_58 (xO.1 109 _ rfl).1 rfl (xO.2.1 109 7 _ rfl) dX9_take_127 ?_
                refine x_getrN C fl_X9_185 (xO.1 153 _ rfl).1 rfl (xO.2.1 153 0 _ rfl) dX9_take_130 ?_
                refine x_aload_n C dX9_take_133 5 rfl rfl ?_
                refine x_getrN C fl_X9_42 (xO.1 109 _ rfl).1 rfl (xO.2.1 109 4 _ rfl) dX9_take_134 ?_
                refine x_getrN C fl_X9_126 (xO.1 143 _ rfl).1 rfl (xO.2.1 143 6 _ rfl) dX9_take_137 ?_
                refine x_callSN C (ok_X10_copyKey 154 150 32 32 (xO.1 154 _ rfl).1 (xO.1 150 _ rfl).1 (xO.1 150 _ rfl).2 (by decide) (by decide) (by decide) (by decide)) ms_X10_copyKey ml_X9_122 rfl rfl (Nat.le_of_ble_eq_true rfl) (hrm (rm := { frames := 0, cells := 0, slots := 0, locals := 0 }) hZ ⟨Nat.le_of_ble_eq_true rfl, Nat.le_of_ble_eq_true rfl⟩) (hcs hZ ⟨Nat.le_of_ble_eq_true rfl, Nat.le_of_ble_eq_true rfl⟩) dX9_take_140 (fun v G' hp => ?_)
                obtain ⟨rfl, rfl⟩ := hp
                generalize eJ3 : va_up J2 150 (fun j => if j < 32 then J2 154 j else J2 150 j) = J3
                have eJ3 := eJ3.symm
                show hX z 0 0 (T, J3, L1, Q, A) [(8, .int (nI (a + 32))), (7, .int (nI (tk nx k))), (6, .int (nI k)), (5, .int (nI (sz nx))), (4, .int (nI a)), (0, .ref (A 109)), (1, .ref (A S)), (2, .ref (A 105)), (3, .ref (A 107))] 143 []
                refine x_aload_n C dX9_take_143 5 rfl rfl ?_
                refine x_getrN C fl_X9_42 (xO.1 109 _ rfl).1 rfl (xO.2.1 109 4 _ rfl) dX9_take_144 ?_
                refine x_iconst (v := nI 1) C dX9_take_147 (by decide +kernel) ?_
                refine x_putzN C fl_X9_129 (xO.1 143 _ rfl).1 (xO.1 143 _ rfl).2 rfl (by first | exact Or.inl rfl | exact Or.inr rfl | assumption) dX9_take_148 (fun I1 eI1 => ?_)
                have n5 : stE (opV τ (fun j => lt (a + j)) (32)) I1 143 := stE.v (S := [143, 150]) n1 (fun j hj => by rw [eI1, va_up_other _ _ (by decide), eJ3, va_up_same]; simp only [hj, if_true]; exact n2 j hj) (by rw [eI1, va_up_same, eJ3, va_up_other _ _ (by decide)]) (by rw [eI1, eJ3]; exact (fx.rf.up (by simp)).up (by simp)) (by intro k h1 h2; simp; omega)
                have n6 : fx [111, 112, 113, 115, 116, 117, 118, 119, 120, 122, 133, 134, 135, 136, 141, 142, 143, 144, 145, 146, 147, 148, 149, 150, 152, 153, 154] I I1 := by rw [eI1, eJ3]; exact (n4.up (by simp)).up (by simp)
                refine x_iload C dX9_take_151 0 rfl ?_
                refine x_istore (lv' := [(4, .int (nI (a + 32))), (8, .int (nI (a + 32))), (7, .int (nI (tk nx k))), (6, .int (nI k)), (5, .int (nI (sz nx))), (0, .ref (A 109)), (1, .ref (A S)), (2, .ref (A 105)), (3, .ref (A 107))]) C dX9_take_153 (Nat.lt_of_lt_of_eq (by decide) hN.symm) rfl ?_
                refine x_goto (tgt := 169) C dX9_take_155 (by decide) ?_
                refine x_iinc (v := nI (k + 1)) (lv' := [(6, .int (nI (k + 1))), (4, .int (nI (a + 32))), (8, .int (nI (a + 32))), (7, .int (nI (tk nx k))), (5, .int (nI (sz nx))), (0, .ref (A 109)), (1, .ref (A S)), (2, .ref (A 105)), (3, .ref (A 107))]) C dX9_take_169 3 rfl (nI_inc 1) (Nat.lt_of_lt_of_eq (by decide) hN.symm) rfl ?_
                refine x_goto (tgt := 33) C dX9_take_172 (by decide) ?_
                refine x_sub (lv' := _) [0, 4, 1, 5, 6, 7, 8] rfl ?_
                exact ih33 (a + 32) (k + 1) I1 L1 Q (opV τ (fun j => lt (a + j)) 32) (by omega) (by omega) n0 n5 n6 hr ⟨cp, cq, cr, cs, h4⟩
            · rw [bI_T c91] at hfit
              have hfit : a + 48 ≤ ln := hfit
              refine x_bipush (v := nI 48) C dX9_take_94 (by decide +kernel) ?_
              refine x_goto (tgt := 101) C dX9_take_96 (by decide) ?_
              refine x_iaddN C dX9_take_101 ?_
              refine x_istore (lv' := [(8, .int (nI (a + 48))), (7, .int (nI (tk nx k))), (6, .int (nI k)), (5, .int (nI (sz nx))), (4, .int (nI a)), (0, .ref (A 109)), (1, .ref (A S)), (2, .ref (A 105)), (3, .ref (A 107))]) C dX9_take_102 (Nat.lt_of_lt_of_eq (by decide) hN.symm) rfl ?_
              refine x_aload_n C dX9_take_104 5 rfl rfl ?_
              refine x_aload_n C dX9_take_105 5 rfl rfl ?_
              refine x_getrN C fl_X9_42 (xO.1 109 _ rfl).1 rfl (xO.2.1 109 4 _ rfl) dX9_take_106 ?_
              refine x_aload_n C dX9_take_109 7 rfl rfl ?_
              refine x_iload C dX9_take_110 4 rfl ?_
              refine x_iload C dX9_take_112 0 rfl ?_
              refine x_aload_n C dX9_take_114 5 rfl rfl ?_
              refine x_getrN C fl_X9_58 (xO.1 109 _ rfl).1 rfl (xO.2.1 109 7 _ rfl) dX9_take_115 ?_
              refine x_callV C (ok_X9_open xO hsa 143 xO.tr (by decide) (Or.inl rfl) (hf.st (by decide) hst) a (a + 48) ln (by rw [hf 105 (by decide)]; exact hln) hl160 (by omega) (by omega) (hkS τ) (τ 7 10) (by rw [hE.2 7 (by decide) (by decide)]; exact hkS_b hbt) (hE.2 10 (by decide) (by decide)) (fun _ => by omega) (fun j j1 j2 => by rw [hf 106 (by decide), hlt j (by omega)]; exact hlb j (by omega)) (fun j hj => by rw [hE.1 1 (by decide) j hj]; exact hbt.1 j hj) 153 154 32 (xO.1 153 _ rfl).1 (xO.2.1 153 0 _ rfl) (xO.1 154 _ rfl).1 (xO.1 153 _ rfl).2 (xO.1 154 _ rfl).2 (Or.inr ⟨rfl, rfl, rfl⟩) (fun h => by rw [bI_T c91] at h; cases h) (fun _ => by omega)) mv_X9_open ml_X9_200 (xO.1 109 _ rfl).1 rfl rfl rfl (Nat.le_of_ble_eq_true rfl) (hrm (rm := { frames := 0, cells := 0, slots := 0, locals := 0 }) hZ ⟨Nat.le_of_ble_eq_true rfl, Nat.le_of_ble_eq_true rfl⟩) (hcs hZ ⟨Nat.le_of_ble_eq_true rfl, Nat.le_of_ble_eq_true rfl⟩) dX9_take_118 (fun v G' hp => ?_)
              obtain ⟨J2, L1, rfl, oL, hq⟩ := hp
              rcases hq with ⟨rfl, oK, oT, q5⟩ | ⟨rfl, oT, ob, oh, o1, ou, q5⟩
              · have hkt : hkS τ = true := bI_T c91
                have hg : ∀ j, j < 48 → J 106 (a + j) = lt (a + j) := fun j hj => by rw [hf 106 (by decide)]; exact hlt _ (by omega)
                have en : a + 48 - a = 48 := by omega
                have oB : opnO τ (fun j => lt (a + j)) (48) = false := Bool.eq_false_iff.mpr (fun h => by rw [en] at oT; exact oT ((opn_c hE rfl hg (fun _ => by decide) oK).mpr (opnO_iff.mp h oK)))
                have nd : nedT (hkS τ) 1 = 48 := nedT_T hkt
                have n0 : rdK sec ha lt ln (tk nx) σ (k + 1) = none := by rw [rdK_s hM]; unfold rdT; rw [if_neg c60, if_pos c79, if_neg (fun h => by have := h.2; simp only [nd] at this; rw [oB] at this; cases this)]
                show hX z 0 0 (T, J2, L1, Q, A) [(8, .int (nI (a + 48))), (7, .int (nI (tk nx k))), (6, .int (nI k)), (5, .int (nI (sz nx))), (4, .int (nI a)), (0, .ref (A 109)), (1, .ref (A S)), (2, .ref (A 105)), (3, .ref (A 107))] 121 [.int (nI 0)]
                refine x_if_neN (tgt := 126) C (by omega) dX9_take_121 (by decide) (fun c121 => absurd c121 (by omega)) (fun c121 => ?_)
                refine x_iconst (v := nI 0) C dX9_take_124 (by decide +kernel) ?_
                exact x_zret C E (by first | exact Or.inl rfl | exact Or.inr rfl | assumption) (Nat.le_of_ble_eq_true rfl) (Nat.le_of_ble_eq_true rfl) dX9_take_125 (⟨J2, L1, Q, rfl, ⟨hr, cp, cq, cr, cs, h4⟩, Or.inl ⟨rfl, rdM_n n0 (by omega), hf.tr q5 (by simp)⟩⟩)
              · have hkt : hkS τ = true := bI_T c91
                have hg : ∀ j, j < 48 → J 106 (a + j) = lt (a + j) := fun j hj => by rw [hf 106 (by decide)]; exact hlt _ (by omega)
                have en : a + 48 - a = 48 := by omega
                have oB : opnO τ (fun j => lt (a + j)) (48) = true := opnO_iff.mpr (fun h => by rw [en] at oT; exact (opn_c hE rfl hg (fun _ => by decide) h).mp (oT h))
                have nd : nedT (hkS τ) 1 = 48 := nedT_T hkt
                have n0 : rdK sec ha lt ln (tk nx) σ (k + 1) = some (opV τ (fun j => lt (a + j)) (48), a + 48) := by rw [rdK_s hM]; unfold rdT; rw [if_neg c60, if_pos c79, if_pos ⟨by show a + nedT (hkS τ) 1 ≤ ln; rw [nd]; omega, by show opnO τ (fun j => lt (a + j)) (nedT (hkS τ) 1) = true; rw [nd]; exact oB⟩]; show some (opV τ (fun j => lt (a + j)) (nedT (hkS τ) 1), a + nedT (hkS τ) 1) = _; rw [nd]
                rw [en] at o1 ob
                have n1 : stE (opR τ (fun j => lt (a + j)) (48)) J2 143 := hE.r rfl rfl hg o1 ou q5 (by intro k h1 h2; simp; omega)
                have n2 : ∀ j, j < 32 → J2 154 j = opnF τ (fun j => lt (a + j)) j := fun j hj => by rw [ob j, if_pos (by rw [show opN (hkS τ) 48 = 32 from by rw [hkt]; rfl]; exact hj)]; exact opF_cg (fun i hi => hE.1 2 (by decide) i hi) (hg j (by omega))
                have n4 : fx [111, 112, 113, 115, 116, 117, 118, 119, 120, 122, 133, 134, 135, 136, 141, 142, 143, 144, 145, 146, 147, 148, 149, 150, 152, 153, 154] I J2 := hf.tr q5 (by simp)
                show hX z 0 0 (T, J2, L1, Q, A) [(8, .int (nI (a + 48))), (7, .int (nI (tk nx k))), (6, .int (nI k)), (5, .int (nI (sz nx))), (4, .int (nI a)), (0, .ref (A 109)), (1, .ref (A S)), (2, .ref (A 105)), (3, .ref (A 107))] 121 [.int (nI 1)]
                refine x_if_neN (tgt := 126) C (by omega) dX9_take_121 (by decide) (fun c121 => ?_) (fun c121 => absurd c121 (by omega))
                refine x_aload_n C dX9_take_126 5 rfl rfl ?_
                refine x_getrN C fl_X9_58 (xO.1 109 _ rfl).1 rfl (xO.2.1 109 7 _ rfl) dX9_take_127 ?_
                refine x_getrN C fl_X9_185 (xO.1 153 _ rfl).1 rfl (xO.2.1 153 0 _ rfl) dX9_take_130 ?_
                refine x_aload_n C dX9_take_133 5 rfl rfl ?_
                refine x_getrN C fl_X9_42 (xO.1 109 _ rfl).1 rfl (xO.2.1 109 4 _ rfl) dX9_take_134 ?_
                refine x_getrN C fl_X9_126 (xO.1 143 _ rfl).1 rfl (xO.2.1 143 6 _ rfl) dX9_take_137 ?_
                refine x_callSN C (ok_X10_copyKey 154 150 32 32 (xO.1 154 _ rfl).1 (xO.1 150 _ rfl).1 (xO.1 150 _ rfl).2 (by decide) (by decide) (by decide) (by decide)) ms_X10_copyKey ml_X9_122 rfl rfl (Nat.le_of_ble_eq_true rfl) (hrm (rm := { frames := 0, cells := 0, slots := 0, locals := 0 }) hZ ⟨Nat.le_of_ble_eq_true rfl, Nat.le_of_ble_eq_true rfl⟩) (hcs hZ ⟨Nat.le_of_ble_eq_true rfl, Nat.le_of_ble_eq_true rfl⟩) dX9_take_140 (fun v G' hp => ?_)
                obtain ⟨rfl, rfl⟩ := hp
                generalize eJ3 : va_up J2 150 (fun j => if j < 32 then J2 154 j else J2 150 j) = J3
                have eJ3 := eJ3.symm
                show hX z 0 0 (T, J3, L1, Q, A) [(8, .int (nI (a + 48))), (7, .int (nI (tk nx k))), (6, .int (nI k)), (5, .int (nI (sz nx))), (4, .int (nI a)), (0, .ref (A 109)), (1, .ref (A S)), (2, .ref (A 105)), (3, .ref (A 107))] 143 []
                refine x_aload_n C dX9_take_143 5 rfl rfl ?_
                refine x_getrN C fl_X9_42 (xO.1 109 _ rfl).1 rfl (xO.2.1 109 4 _ rfl) dX9_take_144 ?_
                refine x_iconst (v := nI 1) C dX9_take_147 (by decide +kernel) ?_
                refine x_putzN C fl_X9_129 (xO.1 143 _ rfl).1 (xO.1 143 _ rfl).2 rfl (by first | exact Or.inl rfl | exact Or.inr rfl | assumption) dX9_take_148 (fun I2 eI2 => ?_)
                have n5 : stE (opV τ (fun j => lt (a + j)) (48)) I2 143 := stE.v (S := [143, 150]) n1 (fun j hj => by rw [eI2, va_up_other _ _ (by decide), eJ3, va_up_same]; simp only [hj, if_true]; exact n2 j hj) (by rw [eI2, va_up_same, eJ3, va_up_other _ _ (by decide)]) (by rw [eI2, eJ3]; exact (fx.rf.up (by simp)).up (by simp)) (by intro k h1 h2; simp; omega)
                have n6 : fx [111, 112, 113, 115, 116, 117, 118, 119, 120, 122, 133, 134, 135, 136, 141, 142, 143, 144, 145, 146, 147, 148, 149, 150, 152, 153, 154] I I2 := by rw [eI2, eJ3]; exact (n4.up (by simp)).up (by simp)
                refine x_iload C dX9_take_151 0 rfl ?_
                refine x_istore (lv' := [(4, .int (nI (a + 48))), (8, .int (nI (a + 48))), (7, .int (nI (tk nx k))), (6, .int (nI k)), (5, .int (nI (sz nx))), (0, .ref (A 109)), (1, .ref (A S)), (2, .ref (A 105)), (3, .ref (A 107))]) C dX9_take_153 (Nat.lt_of_lt_of_eq (by decide) hN.symm) rfl ?_
                refine x_goto (tgt := 169) C dX9_take_155 (by decide) ?_
                refine x_iinc (v := nI (k + 1)) (lv' := [(6, .int (nI (k + 1))), (4, .int (nI (a + 48))), (8, .int (nI (a + 48))), (7, .int (nI (tk nx k))), (5, .int (nI (sz nx))), (0, .ref (A 109)), (1, .ref (A S)), (2, .ref (A 105)), (3, .ref (A 107))]) C dX9_take_169 3 rfl (nI_inc 1) (Nat.lt_of_lt_of_eq (by decide) hN.symm) rfl ?_
                refine x_goto (tgt := 33) C dX9_take_172 (by decide) ?_
                refine x_sub (lv' := _) [0, 4, 1, 5, 6, 7, 8] rfl ?_
                exact ih33 (a + 48) (k + 1) I2 L1 Q (opV τ (fun j => lt (a + j)) 48) (by omega) (by omega) n0 n5 n6 hr ⟨cp, cq, cr, cs, h4⟩
        · rw [if_pos c60] at hll
          have hfit : a + 32 ≤ ln := hll
          refine x_aload_n C dX9_take_63 4 rfl rfl ?_
          refine x_aload_n C dX9_take_64 6 rfl rfl ?_
          refine x_iload C dX9_take_65 3 rfl ?_
          refine x_callV C (ok_X9_takeE xO hsa (hf.st (by decide) hst) a (by omega)) mv_X9_takeE ml_X9_196 (xO.1 109 _ rfl).1 rfl rfl rfl (Nat.le_of_ble_eq_true rfl) (hrm (rm := { frames := 0, cells := 0, slots := 0, locals := 0 }) hZ ⟨Nat.le_of_ble_eq_true rfl, Nat.le_of_ble_eq_true rfl⟩) (hcs hZ ⟨Nat.le_of_ble_eq_true rfl, Nat.le_of_ble_eq_true rfl⟩) dX9_take_67 (fun v G' hp => ?_)
          obtain ⟨rfl, JE, rfl, q1, q2, q3, q4⟩ := hp
          have hg : ∀ j, j < 32 → J 106 (a + j) = lt (a + j) := fun j hj => by rw [hf 106 (by decide)]; exact hlt _ (by omega)
          have n0 : rdK sec ha lt ln (tk nx) σ (k + 1) = some (opX τ (fun j => lt (a + j)), a + 32) := by rw [rdK_s hM]; unfold rdT; rw [if_pos c60, if_pos (show (τ, a).2 + 32 ≤ ln from hfit)]
          have n1 : stE (opX τ (fun j => lt (a + j))) JE 143 := hE.x (g := fun j => J 106 (a + j)) hg q1 q2 q3 q4 (by intro k h1 h2 h3; simp; omega)
          have n4 : fx [111, 112, 113, 115, 116, 117, 118, 119, 120, 122, 133, 134, 135, 136, 141, 142, 143, 144, 145, 146, 147, 148, 149, 150, 152, 153, 154] I JE := hf.tr q4 (by simp)
          show hX z 0 0 (T, JE, K, Q, A) [(7, .int (nI (tk nx k))), (6, .int (nI k)), (5, .int (nI (sz nx))), (4, .int (nI a)), (0, .ref (A 109)), (1, .ref (A S)), (2, .ref (A 105)), (3, .ref (A 107))] 70 []
          refine x_iinc (v := nI (a + 32)) (lv' := [(4, .int (nI (a + 32))), (7, .int (nI (tk nx k))), (6, .int (nI k)), (5, .int (nI (sz nx))), (0, .ref (A 109)), (1, .ref (A S)), (2, .ref (A 105)), (3, .ref (A 107))]) C dX9_take_70 3 rfl (nI_inc 32) (Nat.lt_of_lt_of_eq (by decide) hN.symm) rfl ?_
          refine x_goto (tgt := 169) C dX9_take_73 (by decide) ?_
          refine x_iinc (v := nI (k + 1)) (lv' := [(6, .int (nI (k + 1))), (4, .int (nI (a + 32))), (7, .int (nI (tk nx k))), (5, .int (nI (sz nx))), (0, .ref (A 109)), (1, .ref (A S)), (2, .ref (A 105)), (3, .ref (A 107))]) C dX9_take_169 2 rfl (nI_inc 1) (Nat.lt_of_lt_of_eq (by decide) hN.symm) rfl ?_
          refine x_goto (tgt := 33) C dX9_take_172 (by decide) ?_
          refine x_sub (lv' := _) [0, 3, 1, 4, 5, 6, 7] rfl ?_
          exact ih33 (a + 32) (k + 1) JE K Q (opX τ (fun j => lt (a + j))) (by omega) (by omega) n0 n1 n4 hr ⟨cp, cq, cr, cs, h4⟩
  refine x_sub (lv' := _) [0, 1, 2, 3, 4, 5, 6] rfl ?_
  exact L33 _ 0 0 J0 L R (σ) (Nat.lt_succ_self _) (Nat.zero_le _) rfl e0 f0 fr121.rf ⟨cp, cq, cr, cs, h4⟩

