/-! ===== the model: readsDone, reads, read ===== -/
def mFr (n s : Nat) (I J : Nat → Nat → Int32) : Prop := ∃ K, mF n s I K ∧ (∀ q, q ≠ 63 → q ≠ 59 → J q = K q) ∧ ∀ j, j ≠ 60 → J 63 j = K 63 j
theorem sh_neg : ∀ ln, ln < 16 → ¬ ((0 : Int32) ≤ nI ln - nI 16) := by decide +kernel
theorem or3 {A B C D : Prop} (h : A ∨ (B ∧ (C ∨ D))) : A ∨ (B ∧ C) ∨ (B ∧ D) := by
  rcases h with h | ⟨h, h1 | h1⟩
  · exact Or.inl h
  · exact Or.inr (Or.inl ⟨h, h1⟩)
  · exact Or.inr (Or.inr ⟨h, h1⟩)
theorem rdT_le {sec : Nat → Int32} {ha : Nat} {lt : Nat → Int32} {ln t : Nat} {p p' : sgT × Nat} (h : rdT sec ha lt ln t p = some p') (hl : p.2 ≤ ln) : p'.2 ≤ ln := by
  rcases rdT_i h with ⟨-, h1, rfl⟩ | ⟨-, h1, rfl⟩ | ⟨-, -, rfl⟩
  · exact h1
  · exact h1
  · exact hl
theorem rdE_2 {ha ms nx : Nat} {lt : Nat → Int32} {ln : Nat} {p : sgT × Nat} (h1 : hkS p.1 = true) (h2 : ln < p.2 + 16) : rdE ha ms nx lt ln p = none := if_neg (fun h => absurd (h.1 h1) (by omega))
theorem mdE.u59 {σ : sgT} {I J : Nat → Nat → Int32} {s : Nat} {dn : Bool} (h : mdE σ I s dn) (e : ∀ q, q ≠ 63 → q ≠ 59 → J q = I q) : mdE σ J s dn := h.sm (fun q _ h2 => e q (by omega) (by omega))
theorem mF.w4 {s : Nat} {I J : Nat → Nat → Int32} (h : mF 5 4 I J) : mF 4 s I J := ⟨h.1, h.2.1, h.2.2.1, fun q a b c => ⟨fun d t e _ => (h.2.2.2 q a b c).1 d t (by omega) (by omega), fun d i e _ => (h.2.2.2 q a b c).2 d i (by omega) (by omega)⟩⟩
theorem mF.n4 {s : Nat} {I J : Nat → Nat → Int32} (h : mF 5 s I J) : mF 4 s I J := ⟨h.1, h.2.1, h.2.2.1, fun q a b c => ⟨fun d t e g => (h.2.2.2 q a b c).1 d t (by omega) g, fun d i e g => (h.2.2.2 q a b c).2 d i (by omega) g⟩⟩
set_option maxHeartbeats 4000000 in
set_option maxRecDepth 100000 in
theorem sh_X11_readsDone {l : Launch} {a0 : Nat} {D : va_G} {sa : Nat → Nat} {T : Nat → Option hKd} {I : Nat → Nat → Int32} {L : Nat → Nat → Int64} {R : Nat → Nat → Option Nat} {A : Nat → Nat} (mO : isM T R A a0) (hc : shC I) (s : Nat) (hs5 : s < 5) (σ : sgT) (hE : mdE σ I s true) (ln : Nat) (hln : I 63 58 = nI ln) (hl160 : ln ≤ 160) (lt : Nat → Int32) (hlt : ∀ j, j < ln → I 57 j = lt j) (hlb : ∀ j, j < ln → byt (lt j) < 256) (hsh : ln < 16) : hM l a0 D sa yX11_readsDone cX11_readsDone 3 (some .int) { frames := 0, cells := 0, slots := 0, locals := 0 } [.ref (A 63), .int (nI s)] (T, I, L, R, A) (fun r G' => r = some (.int (-5)) ∧ G' = (T, I, L, R, A)) := by
  refine hM.of (by decide +kernel) (Nat.le_of_ble_eq_true rfl) ?_
  intro z hl h0 hD hS hN C E
  subst hl; subst h0; subst hD; subst hS
  have C : hC z RX11 cX11_readsDone := C
  have hZ := E.2.2.2.1
  show hX z 0 0 (T, I, L, R, A) [(0, .ref (A 63)), (1, .int (nI s))] 0 []
  refine x_aload_n C dX11_readsDone_0 0 rfl rfl ?_
  refine x_getiN C fl_X11_450 mO.1 rfl dX11_readsDone_1 ?_
  refine x_eqi (y := nI ln) hln ?_
  refine x_bipush (v := nI 16) C dX11_readsDone_4 (by decide +kernel) ?_
  refine x_isub C dX11_readsDone_6 ?_
  refine x_istore_n (lv' := [(2, .int ((nI ln) - (nI 16))), (0, .ref (A 63)), (1, .int (nI s))]) C dX11_readsDone_7 rfl (Nat.lt_of_lt_of_eq (by decide) hN.symm) rfl ?_
  refine x_iload_n C dX11_readsDone_8 0 rfl rfl ?_
  refine x_if_ge (tgt := 15) C dX11_readsDone_9 (by decide) (fun c9 => absurd c9 (by exact sh_neg ln hsh)) (fun c9 => ?_)
  refine x_bipush (v := (-5)) C dX11_readsDone_12 (by decide +kernel) ?_
  exact x_iret C E (Nat.le_of_ble_eq_true rfl) (Nat.le_of_ble_eq_true rfl) dX11_readsDone_14 (⟨rfl, rfl⟩)

set_option maxHeartbeats 4000000 in
set_option maxRecDepth 100000 in
theorem ok_X11_readsDone {l : Launch} {a0 : Nat} {D : va_G} {sa : Nat → Nat} {T : Nat → Option hKd} {I : Nat → Nat → Int32} {L : Nat → Nat → Int64} {R : Nat → Nat → Option Nat} {A : Nat → Nat} (mO : isM T R A a0) (hc : shC I) (s : Nat) (hs5 : s < 5) (σ : sgT) (hE : mdE σ I s true) (ln : Nat) (hln : I 63 58 = nI ln) (hl160 : ln ≤ 160) (lt : Nat → Int32) (hlt : ∀ j, j < ln → I 57 j = lt j) (hlb : ∀ j, j < ln → byt (lt j) < 256) (h16 : 16 ≤ ln) : hM l a0 D sa yX11_readsDone cX11_readsDone 3 (some .int) { frames := 4, cells := 0, slots := 0, locals := 102 } [.ref (A 63), .int (nI s)] (T, I, L, R, A) (fun r G' => ∃ I', G' = (T, I', L, R, A) ∧ I' 57 = I 57 ∧ ((dnO σ lt ln = false ∧ r = some (.int (-6)) ∧ mdE σ I' s true ∧ mF 5 s I I' ∧ I' 59 = I 59) ∨ (dnO σ lt ln = true ∧ r = some (.int (nI (ln - 16))) ∧ mdE (sFl σ 11 (σ 7 11 + 1)) I' s true ∧ (∀ j, j < ln - 16 → I' 59 j = dnG σ lt j) ∧ I' 63 60 = nI (ln - 16) ∧ mFr 5 s I I'))) := by
  refine hM.of (by decide +kernel) (Nat.le_of_ble_eq_true rfl) ?_
  intro z hl h0 hD hS hN C E
  subst hl; subst h0; subst hD; subst hS
  have C : hC z RX11 cX11_readsDone := C
  have hZ := E.2.2.2.1
  show hX z 0 0 (T, I, L, R, A) [(0, .ref (A 63)), (1, .int (nI s))] 0 []
  refine x_aload_n C dX11_readsDone_0 0 rfl rfl ?_
  refine x_getiN C fl_X11_450 mO.1 rfl dX11_readsDone_1 ?_
  refine x_eqi (y := nI ln) hln ?_
  refine x_bipush (v := nI 16) C dX11_readsDone_4 (by decide +kernel) ?_
  refine x_isubN C (by omega) dX11_readsDone_6 ?_
  refine x_istore_n (lv' := [(2, .int (nI (ln - 16))), (0, .ref (A 63)), (1, .int (nI s))]) C dX11_readsDone_7 rfl (Nat.lt_of_lt_of_eq (by decide) hN.symm) rfl ?_
  refine x_iload_n C dX11_readsDone_8 0 rfl rfl ?_
  refine x_if_geN (tgt := 15) C (by omega) dX11_readsDone_9 (by decide) ?_
  refine x_aload_n C dX11_readsDone_15 1 rfl rfl ?_
  refine x_aload_n C dX11_readsDone_16 1 rfl rfl ?_
  refine x_getrN C fl_X11_225 mO.1 rfl (mO.2.2 50 _ rfl).1 dX11_readsDone_17 ?_
  refine x_bipush (v := nI 32) C dX11_readsDone_20 (by decide +kernel) ?_
  refine x_iload_n C dX11_readsDone_22 2 rfl rfl ?_
  refine x_imulN C dX11_readsDone_23 ?_
  refine x_aload_n C dX11_readsDone_24 1 rfl rfl ?_
  refine x_getrN C fl_X11_207 mO.1 rfl (mO.2.2 44 _ rfl).1 dX11_readsDone_25 ?_
  refine x_iload_n C dX11_readsDone_28 2 rfl rfl ?_
  refine x_ialdN C (mO.2.2 44 _ rfl).2.1 (by omega) (by omega) dX11_readsDone_29 ?_
  refine x_eqi (y := σ 7 11) (hE.2.2.2.2.2.2.2.2.1 rfl) ?_
  refine x_aload_n C dX11_readsDone_30 1 rfl rfl ?_
  refine x_getrN C fl_X11_219 mO.1 rfl (mO.2.2 48 _ rfl).1 dX11_readsDone_31 ?_
  refine x_iconst (v := nI 0) C dX11_readsDone_34 (by decide +kernel) ?_
  refine x_iconst (v := nI 0) C dX11_readsDone_35 (by decide +kernel) ?_
  refine x_aload_n C dX11_readsDone_36 1 rfl rfl ?_
  refine x_getrN C fl_X11_243 mO.1 rfl (mO.2.2 57 _ rfl).1 dX11_readsDone_37 ?_
  refine x_iconst (v := nI 0) C dX11_readsDone_40 (by decide +kernel) ?_
  refine x_iload_n C dX11_readsDone_41 0 rfl rfl ?_
  refine x_callV C (ok_X11_tagOf mO 50 160 (32 * s) (σ 7 11) 48 160 0 0 57 400 0 (ln - 16) (mO.2.2 50 _ rfl).2.1 (by decide) (by omega) (by decide) (mO.2.2 48 _ rfl).2.1 (by decide) (by omega) (by decide) (mO.2.2 57 _ rfl).2.1 (by decide) (by omega) (by omega) (by decide) (by decide) (fun j hj => absurd hj (Nat.not_lt_zero j)) (fun j hj => by rw [Nat.zero_add, hlt j (by omega)]; exact hlb j (by omega))) mv_X11_tagOf ml_X11_425 mO.1 rfl rfl rfl (Nat.le_of_ble_eq_true rfl) (hrm (rm := { frames := 0, cells := 0, slots := 0, locals := 0 }) hZ ⟨Nat.le_of_ble_eq_true rfl, Nat.le_of_ble_eq_true rfl⟩) (hcs hZ ⟨Nat.le_of_ble_eq_true rfl, Nat.le_of_ble_eq_true rfl⟩) dX11_readsDone_42 (fun v G' hp => ?_)
  obtain ⟨rfl, J1, rfl, t1, t2⟩ := hp
  show hX z 0 0 (T, J1, L, R, A) [(2, .int (nI (ln - 16))), (0, .ref (A 63)), (1, .int (nI s))] 45 []
  refine x_aload_n C dX11_readsDone_45 1 rfl rfl ?_
  refine x_aload_n C dX11_readsDone_46 1 rfl rfl ?_
  refine x_getrN C fl_X11_243 mO.1 rfl (mO.2.2 57 _ rfl).1 dX11_readsDone_47 ?_
  refine x_iload_n C dX11_readsDone_50 0 rfl rfl ?_
  refine x_callV C (ok_X11_isRight mO (ln - 16) (by omega)) mv_X11_isRight ml_X11_429 mO.1 rfl rfl rfl (Nat.le_of_ble_eq_true rfl) (hrm (rm := { frames := 0, cells := 0, slots := 0, locals := 0 }) hZ ⟨Nat.le_of_ble_eq_true rfl, Nat.le_of_ble_eq_true rfl⟩) (hcs hZ ⟨Nat.le_of_ble_eq_true rfl, Nat.le_of_ble_eq_true rfl⟩) dX11_readsDone_51 (fun v G' hp => ?_)
  obtain ⟨⟨q, rfl, hq⟩, rfl⟩ := hp
  have hq2 : q = true ↔ dnO σ lt ln = true := by
    rw [hq]; unfold dnO; rw [tagB_iff]
    unfold tagR
    constructor
    · intro h j hj
      have h1 := h j hj
      rw [t2 57 (by decide), t1 j hj, hlt _ (by omega)] at h1
      rw [h1]
      exact congrArg nI <| tagO_cg (fun i hi => (hE.2.2.2.1 i hi).symm) (fun j hj => absurd hj (Nat.not_lt_zero j)) (fun i hi => by show byt _ = byt _; rw [Nat.zero_add, hlt i (by omega)]) j
    · intro h j hj
      rw [t2 57 (by decide), t1 j hj, hlt _ (by omega), ← h j hj]
      exact congrArg nI <| tagO_cg (fun i hi => (hE.2.2.2.1 i hi).symm) (fun j hj => absurd hj (Nat.not_lt_zero j)) (fun i hi => by show byt _ = byt _; rw [Nat.zero_add, hlt i (by omega)]) j
  show hX z 0 0 (T, J1, L, R, A) [(2, .int (nI (ln - 16))), (0, .ref (A 63)), (1, .int (nI s))] 54 [.int (bI q)]
  refine x_if_ne (tgt := 60) C dX11_readsDone_54 (by decide) (fun c54 => ?_) (fun c54 => ?_)
  · refine x_aload_n C dX11_readsDone_60 1 rfl rfl ?_
    refine x_getrN C fl_X11_243 mO.1 rfl (mO.2.2 57 _ rfl).1 dX11_readsDone_61 ?_
    refine x_iconst (v := nI 0) C dX11_readsDone_64 (by decide +kernel) ?_
    refine x_aload_n C dX11_readsDone_65 1 rfl rfl ?_
    refine x_getrN C fl_X11_246 mO.1 rfl (mO.2.2 59 _ rfl).1 dX11_readsDone_66 ?_
    refine x_iconst (v := nI 0) C dX11_readsDone_69 (by decide +kernel) ?_
    refine x_iload_n C dX11_readsDone_70 0 rfl rfl ?_
    refine x_callS C (ok_X11_copy 57 59 (0) (0) (ln - 16) 400 400 (mO.2.2 57 _ rfl).2.1 (mO.2.2 59 _ rfl).2.1 (mO.2.2 59 _ rfl).2.2 (by omega) (by omega) (by decide) (by decide) (fun e => absurd e (by decide))) ms_X11_copy ml_X11_270 rfl rfl (Nat.le_of_ble_eq_true rfl) (hrm (rm := { frames := 0, cells := 0, slots := 0, locals := 0 }) hZ ⟨Nat.le_of_ble_eq_true rfl, Nat.le_of_ble_eq_true rfl⟩) (hcs hZ ⟨Nat.le_of_ble_eq_true rfl, Nat.le_of_ble_eq_true rfl⟩) dX11_readsDone_71 (fun v G' hp => ?_)
    obtain ⟨rfl, rfl⟩ := hp
    generalize eI1 : va_up J1 59 (fun j => if 0 ≤ j ∧ j < 0 + (ln - 16) then J1 57 (0 + (j - 0)) else J1 59 j) = I1
    have eI1 := eI1.symm
    show hX z 0 0 (T, I1, L, R, A) [(2, .int (nI (ln - 16))), (0, .ref (A 63)), (1, .int (nI s))] 74 []
    refine x_aload_n C dX11_readsDone_74 1 rfl rfl ?_
    refine x_aload_n C dX11_readsDone_75 1 rfl rfl ?_
    refine x_getrN C fl_X11_225 mO.1 rfl (mO.2.2 50 _ rfl).1 dX11_readsDone_76 ?_
    refine x_bipush (v := nI 32) C dX11_readsDone_79 (by decide +kernel) ?_
    refine x_iload_n C dX11_readsDone_81 2 rfl rfl ?_
    refine x_imulN C dX11_readsDone_82 ?_
    refine x_aload_n C dX11_readsDone_83 1 rfl rfl ?_
    refine x_getrN C fl_X11_207 mO.1 rfl (mO.2.2 44 _ rfl).1 dX11_readsDone_84 ?_
    refine x_iload_n C dX11_readsDone_87 2 rfl rfl ?_
    refine x_ialdN C (mO.2.2 44 _ rfl).2.1 (by omega) (by omega) dX11_readsDone_88 ?_
    refine x_eqi (y := σ 7 11) (by rw [eI1, va_up_other _ _ (by decide), t2 44 (by decide)]; exact (hE.2.2.2.2.2.2.2.2.1 rfl)) ?_
    refine x_aload_n C dX11_readsDone_89 1 rfl rfl ?_
    refine x_getrN C fl_X11_246 mO.1 rfl (mO.2.2 59 _ rfl).1 dX11_readsDone_90 ?_
    refine x_iconst (v := nI 0) C dX11_readsDone_93 (by decide +kernel) ?_
    refine x_iload_n C dX11_readsDone_94 0 rfl rfl ?_
    refine x_callV C (ok_X11_ciphers mO 50 160 (32 * s) (σ 7 11) 59 400 0 (ln - 16) (mO.2.2 50 _ rfl).2.1 (by decide) (by omega) (by decide) (mO.2.2 59 _ rfl).2.1 (by decide) (mO.2.2 59 _ rfl).2.2 (by omega) (by decide)) mv_X11_ciphers ml_X11_421 mO.1 rfl rfl rfl (Nat.le_of_ble_eq_true rfl) (hrm (rm := { frames := 0, cells := 0, slots := 0, locals := 0 }) hZ ⟨Nat.le_of_ble_eq_true rfl, Nat.le_of_ble_eq_true rfl⟩) (hcs hZ ⟨Nat.le_of_ble_eq_true rfl, Nat.le_of_ble_eq_true rfl⟩) dX11_readsDone_95 (fun v G' hp => ?_)
    obtain ⟨rfl, J3, rfl, c1, c2⟩ := hp
    have x1 : ∀ j, j < ln - 16 → J3 59 j = dnG σ lt j := fun j hj => by rw [c1]; show (if 0 ≤ j ∧ j < 0 + (ln - 16) then I1 59 (0 + (j - 0)) ^^^ strm _ _ (j - 0) else _) = _; rw [if_pos (by omega), Nat.sub_zero, Nat.zero_add, strm_congr (fun i hi => (show I1 50 (32 * s + i) = σ 3 i by rw [eI1, va_up_other _ _ (by decide), t2 50 (by decide)]; exact hE.2.2.2.1 i hi)), eI1, va_up_same]; show (if 0 ≤ j ∧ j < 0 + (ln - 16) then J1 57 (0 + (j - 0)) else _) ^^^ _ = _; rw [if_pos (by omega), Nat.sub_zero, Nat.zero_add, t2 57 (by decide), hlt j (by omega)]; rfl
    show hX z 0 0 (T, J3, L, R, A) [(2, .int (nI (ln - 16))), (0, .ref (A 63)), (1, .int (nI s))] 98 []
    refine x_aload_n C dX11_readsDone_98 1 rfl rfl ?_
    refine x_getrN C fl_X11_207 mO.1 rfl (mO.2.2 44 _ rfl).1 dX11_readsDone_99 ?_
    refine x_iload_n C dX11_readsDone_102 2 rfl rfl ?_
    refine x_dup2 C dX11_readsDone_103 rfl rfl ?_
    refine x_ialdN C (mO.2.2 44 _ rfl).2.1 (by omega) (by omega) dX11_readsDone_104 ?_
    refine x_eqi (y := σ 7 11) (by rw [c2 44 (by decide), eI1, va_up_other _ _ (by decide), t2 44 (by decide)]; exact (hE.2.2.2.2.2.2.2.2.1 rfl)) ?_
    refine x_iconst (v := nI 1) C dX11_readsDone_105 (by decide +kernel) ?_
    refine x_iadd C dX11_readsDone_106 ?_
    refine x_iastN C (mO.2.2 44 _ rfl).2.1 (mO.2.2 44 _ rfl).2.2 (by omega) (by omega) dX11_readsDone_107 (fun I2 eI2 => ?_)
    refine x_aload_n C dX11_readsDone_108 1 rfl rfl ?_
    refine x_iload_n C dX11_readsDone_109 0 rfl rfl ?_
    refine x_putiN C fl_X11_457 mO.1 mO.2.1 rfl dX11_readsDone_110 (fun I3 eI3 => ?_)
    refine x_iload_n C dX11_readsDone_113 0 rfl rfl ?_
    exact x_iret C E (Nat.le_of_ble_eq_true rfl) (Nat.le_of_ble_eq_true rfl) dX11_readsDone_114 (by
        have K0 : ∀ q, q ≠ 63 → q ≠ 59 → I3 q = va_up (va_up I2 59 (I 59)) 63 (I 63) q := fun q h1 h2 => by rw [eI3, va_up_other _ _ h1, va_up_other _ _ h1, va_up_other _ _ h2]
        have oth : ∀ q, q ∉ [14, 15, 16, 17, 18, 19, 20, 21, 22, 23, 44] → q ≠ 63 → q ≠ 59 → I2 q = I q := fun q h1 h2 h3 => by rw [eI2, va_up_other _ _ (fun e => h1 (by rw [e]; simp)), c2 q (by simp at h1 ⊢; omega), eI1, va_up_other _ _ h3, t2 q (by simp at h1 ⊢; omega)]
        have g44 : I2 44 = upd (I 44) s (σ 7 11 + nI 1) := by rw [eI2, va_up_same, c2 44 (by decide), eI1, va_up_other _ _ (by decide), t2 44 (by decide)]
        have o63 : I2 63 = I 63 := by rw [eI2, va_up_other _ _ (by decide), c2 63 (by decide), eI1, va_up_other _ _ (by decide), t2 63 (by decide)]
        have F4 : fmS [14, 15, 16, 17, 18, 19, 20, 21, 22, 23, 44] I (va_up (va_up I2 59 (I 59)) 63 (I 63)) := by
          refine ⟨fun q h1 h2 => ?_, fun j _ => by rw [va_up_same]⟩
          rw [va_up_other _ _ h2]
          by_cases h3 : q = 59
          · rw [h3, va_up_same]
          · rw [va_up_other _ _ h3]; exact oth q h1 h2 h3
        have g44' : (va_up (va_up I2 59 (I 59)) 63 (I 63)) 44 = upd (I 44) s (σ 7 11 + nI 1) := by rw [va_up_other _ _ (by decide), va_up_other _ _ (by decide), g44]
        refine ⟨I3, rfl, ?_, Or.inr ⟨hq2.mp (bI_T c54), rfl, ?_, ?_, ?_, (va_up (va_up I2 59 (I 59)) 63 (I 63)), ?_, K0, ?_⟩⟩
        · rw [eI3, va_up_other _ _ (by decide)]; exact oth 57 (by decide) (by decide) (by decide)
        · refine mdE.u59 (I := va_up (va_up I2 59 (I 59)) 63 (I 63)) ?_ K0
          exact hE.f11 (by rw [g44']; simp [upd]; rfl) (fun q h1 h2 h3 => F4.o q (by simp; omega) (by omega))
        · intro j hj; rw [eI3, va_up_other _ _ (by decide), eI2, va_up_other _ _ (by decide)]; exact x1 j hj
        · rw [eI3, va_up_same]; simp [upd]
        · refine mF.fm F4 (by decide) (h13Z.o (F4.o 13 (by decide) (by decide))) (fun q h1 h2 h3 => ?_)
          simp at h1
          obtain rfl : q = 44 := by omega
          exact sdO.fld g44' (by decide)
        · intro j hj; rw [eI3, va_up_same, va_up_same, o63]; unfold upd; rw [if_neg hj])
  · refine x_bipush (v := (-6)) C dX11_readsDone_57 (by decide +kernel) ?_
    exact x_iret C E (Nat.le_of_ble_eq_true rfl) (Nat.le_of_ble_eq_true rfl) dX11_readsDone_59 (by
        have F1 := fmS.of t2 (by decide)
        refine ⟨J1, rfl, t2 57 (by decide), Or.inl ⟨?_, rfl, hE.sm (fun q h1 h2 => t2 q (by simp; omega)), ?_, t2 59 (by decide)⟩⟩
        · refine Bool.eq_false_iff.mpr (fun h => ?_)
          have := hq2.mpr h
          rw [bI_F c54] at this; cases this
        · exact mF.fm F1 (by decide) (h13Z.o (F1.o 13 (by decide) (by decide))) (by intro q h1 h2 h3; simp at h1; omega))

