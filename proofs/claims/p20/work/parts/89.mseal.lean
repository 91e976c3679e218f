theorem wRow.mx {I J : Nat → Nat → Int32} {c s : Nat} {f g : Nat → Int32} (e : J c = (fun j => if 32 * s ≤ j ∧ j < 32 * s + 32 then g (j - 32 * s) else I c j)) (h : ∀ i, i < 32 → g i = f i) : wRow I J c s f := by
  refine ⟨fun i hi => ?_, fun j hj => ?_⟩
  · rw [e]
    show (if 32 * s ≤ 32 * s + i ∧ 32 * s + i < 32 * s + 32 then g (32 * s + i - 32 * s) else _) = _
    rw [if_pos (by omega), show 32 * s + i - 32 * s = i by omega, h i hi]
  · rw [e]
    show (if 32 * s ≤ j ∧ j < 32 * s + 32 then _ else I c j) = _
    rw [if_neg hj]
theorem wRow.fr {I I0 J : Nat → Nat → Int32} {c s : Nat} {f : Nat → Int32} (h : wRow I0 J c s f) (e : I0 c = I c) : wRow I J c s f := ⟨h.1, fun j hj => (h.2 j hj).trans (by rw [e])⟩
set_option maxHeartbeats 4000000 in
set_option maxRecDepth 100000 in
theorem ok_X11_seal {l : Launch} {a0 : Nat} {D : va_G} {sa : Nat → Nat} {T : Nat → Option hKd} {I : Nat → Nat → Int32} {L : Nat → Nat → Int64} {R : Nat → Nat → Option Nat} {A : Nat → Nat} (mO : isM T R A a0) (hc : shC I) (s : Nat) (hs5 : s < 5) (hk : Bool) (cv : Int32) (hhk : I 42 s = bI hk) (hcv : I 43 s = cv) (hbh : ∀ j, j < 32 → byt (I 48 (32 * s + j)) < 256) (f m : Nat) (hfm : f + m + 16 ≤ 400) (hm : m ≤ 64) (hbx : ∀ j, j < m → byt (I 57 (f + j)) < 256) : hM l a0 D sa yX11_seal cX11_seal 6 (some .int) { frames := 4, cells := 0, slots := 0, locals := 103 } [.ref (A 63), .int (nI s), .ref (A 57), .int (nI f), .int (nI m)] (T, I, L, R, A) (fun r G' => r = some (.int (nI (slN hk m))) ∧ ∃ I', G' = (T, I', L, R, A) ∧ (∀ j, j < slN hk m → I' 57 (f + j) = (slF hk (fun i => I 49 (32 * s + i)) cv 32 (fun j => byt (I 48 (32 * s + j))) (fun j => I 57 (f + j)) m) j) ∧ (∀ t, t < f ∨ f + slN hk m ≤ t → I' 57 t = I 57 t) ∧ wRow I I' 48 s (mixF (fun i => I 48 (32 * s + i)) (slF hk (fun i => I 49 (32 * s + i)) cv 32 (fun j => byt (I 48 (32 * s + j))) (fun j => I 57 (f + j)) m) (slN hk m)) ∧ I' 43 = upd (I 43) s (if hk then cv + 1 else cv) ∧ fmS [0, 2, 3, 14, 15, 16, 17, 18, 19, 20, 21, 22, 23, 43, 48, 57] I I') := by
  refine hM.of (by decide +kernel) (Nat.le_of_ble_eq_true rfl) ?_
  intro z hl h0 hD hS hN C E
  subst hl; subst h0; subst hD; subst hS
  have C : hC z RX11 cX11_seal := C
  have hZ := E.2.2.2.1
  show hX z 0 0 (T, I, L, R, A) [(0, .ref (A 63)), (1, .int (nI s)), (2, .ref (A 57)), (3, .int (nI f)), (4, .int (nI m))] 0 []
  refine x_iload C dX11_seal_0 4 rfl ?_
  refine x_istore (lv' := [(5, .int (nI m)), (0, .ref (A 63)), (1, .int (nI s)), (2, .ref (A 57)), (3, .int (nI f)), (4, .int (nI m))]) C dX11_seal_2 (Nat.lt_of_lt_of_eq (by decide) hN.symm) rfl ?_
  refine x_aload_n C dX11_seal_4 1 rfl rfl ?_
  refine x_getrN C fl_X11_201 mO.1 rfl (mO.2.2 42 _ rfl).1 dX11_seal_5 ?_
  refine x_iload_n C dX11_seal_8 2 rfl rfl ?_
  refine x_zaldN C (mO.2.2 42 _ rfl).2.1 (by omega) (by omega) dX11_seal_9 ?_
  refine x_eqi (y := bI hk) hhk ?_
  refine x_if_eq (tgt := 95) C dX11_seal_10 (by decide) (fun c10 => ?_) (fun c10 => ?_)
  · refine x_aload_n C dX11_seal_95 1 rfl rfl ?_
    refine x_iload_n C dX11_seal_96 2 rfl rfl ?_
    refine x_aload_n C dX11_seal_97 3 rfl rfl ?_
    refine x_iload_n C dX11_seal_98 4 rfl rfl ?_
    refine x_iload C dX11_seal_99 0 rfl ?_
    refine x_callV C (ok_X11_mixHash mO s 57 400 f m hc.1 hc.2 hs5 (mO.2.2 57 _ rfl).2.1 (by decide) (by omega) (by omega) (by decide) (by decide)) mv_X11_mixHash ml_X11_404 mO.1 rfl rfl rfl (Nat.le_of_ble_eq_true rfl) (hrm (rm := { frames := 0, cells := 0, slots := 0, locals := 0 }) hZ ⟨Nat.le_of_ble_eq_true rfl, Nat.le_of_ble_eq_true rfl⟩) (hcs hZ ⟨Nat.le_of_ble_eq_true rfl, Nat.le_of_ble_eq_true rfl⟩) dX11_seal_101 (fun v G' hp => ?_)
    obtain ⟨rfl, J5, rfl, h1, h2⟩ := hp
    show hX z 0 0 (T, J5, L, R, A) [(5, .int (nI m)), (0, .ref (A 63)), (1, .int (nI s)), (2, .ref (A 57)), (3, .int (nI f)), (4, .int (nI m))] 104 []
    refine x_iload C dX11_seal_104 0 rfl ?_
    exact x_iret C E (Nat.le_of_ble_eq_true rfl) (Nat.le_of_ble_eq_true rfl) dX11_seal_106 (by
        have ek := bI_F c10
        subst ek
        refine ⟨rfl, J5, rfl, fun j hj => ?_, fun t ht => ?_, (wRow.mx h1 (fun i hi => ?_)), ?_, h2.w (by simp)⟩
        · rw [h2.o 57 (by decide) (by decide)]; rfl
        · rw [h2.o 57 (by decide) (by decide)]
        · rfl
        · rw [h2.o 43 (by decide) (by decide), ← hcv]; exact (upd_id rfl).symm)
  · refine x_aload_n C dX11_seal_13 1 rfl rfl ?_
    refine x_aload_n C dX11_seal_14 1 rfl rfl ?_
    refine x_getrN C fl_X11_222 mO.1 rfl (mO.2.2 49 _ rfl).1 dX11_seal_15 ?_
    refine x_bipush (v := nI 32) C dX11_seal_18 (by decide +kernel) ?_
    refine x_iload_n C dX11_seal_20 2 rfl rfl ?_
    refine x_imulN C dX11_seal_21 ?_
    refine x_aload_n C dX11_seal_22 1 rfl rfl ?_
    refine x_getrN C fl_X11_204 mO.1 rfl (mO.2.2 43 _ rfl).1 dX11_seal_23 ?_
    refine x_iload_n C dX11_seal_26 2 rfl rfl ?_
    refine x_ialdN C (mO.2.2 43 _ rfl).2.1 (by omega) (by omega) dX11_seal_27 ?_
    refine x_eqi (y := cv) hcv ?_
    refine x_aload_n C dX11_seal_28 3 rfl rfl ?_
    refine x_iload_n C dX11_seal_29 4 rfl rfl ?_
    refine x_iload C dX11_seal_30 5 rfl ?_
    refine x_callV C (ok_X11_ciphers mO 49 160 (32 * s) cv 57 400 f m (mO.2.2 49 _ rfl).2.1 (by decide) (by omega) (by decide) (mO.2.2 57 _ rfl).2.1 (by decide) (mO.2.2 57 _ rfl).2.2 (by omega) (by decide)) mv_X11_ciphers ml_X11_421 mO.1 rfl rfl rfl (Nat.le_of_ble_eq_true rfl) (hrm (rm := { frames := 0, cells := 0, slots := 0, locals := 0 }) hZ ⟨Nat.le_of_ble_eq_true rfl, Nat.le_of_ble_eq_true rfl⟩) (hcs hZ ⟨Nat.le_of_ble_eq_true rfl, Nat.le_of_ble_eq_true rfl⟩) dX11_seal_32 (fun v G' hp => ?_)
    obtain ⟨rfl, J1, rfl, c1, c2⟩ := hp
    have x1 : ∀ j, j < m → J1 57 (f + j) = I 57 (f + j) ^^^ strm (fun i => I 49 (32 * s + i)) cv j := fun j hj => by rw [c1]; show (if f ≤ f + j ∧ f + j < f + m then I 57 (f + (f + j - f)) ^^^ _ else _) = _; rw [if_pos (by omega), show f + j - f = j by omega]
    show hX z 0 0 (T, J1, L, R, A) [(5, .int (nI m)), (0, .ref (A 63)), (1, .int (nI s)), (2, .ref (A 57)), (3, .int (nI f)), (4, .int (nI m))] 35 []
    refine x_aload_n C dX11_seal_35 1 rfl rfl ?_
    refine x_aload_n C dX11_seal_36 1 rfl rfl ?_
    refine x_getrN C fl_X11_222 mO.1 rfl (mO.2.2 49 _ rfl).1 dX11_seal_37 ?_
    refine x_bipush (v := nI 32) C dX11_seal_40 (by decide +kernel) ?_
    refine x_iload_n C dX11_seal_42 2 rfl rfl ?_
    refine x_imulN C dX11_seal_43 ?_
    refine x_aload_n C dX11_seal_44 1 rfl rfl ?_
    refine x_getrN C fl_X11_204 mO.1 rfl (mO.2.2 43 _ rfl).1 dX11_seal_45 ?_
    refine x_iload_n C dX11_seal_48 2 rfl rfl ?_
    refine x_ialdN C (mO.2.2 43 _ rfl).2.1 (by omega) (by omega) dX11_seal_49 ?_
    refine x_eqi (y := cv) (by rw [c2 43 (by decide)]; exact hcv) ?_
    refine x_aload_n C dX11_seal_50 1 rfl rfl ?_
    refine x_getrN C fl_X11_219 mO.1 rfl (mO.2.2 48 _ rfl).1 dX11_seal_51 ?_
    refine x_bipush (v := nI 32) C dX11_seal_54 (by decide +kernel) ?_
    refine x_iload_n C dX11_seal_56 2 rfl rfl ?_
    refine x_imulN C dX11_seal_57 ?_
    refine x_bipush (v := nI 32) C dX11_seal_58 (by decide +kernel) ?_
    refine x_aload_n C dX11_seal_60 3 rfl rfl ?_
    refine x_iload_n C dX11_seal_61 4 rfl rfl ?_
    refine x_iload C dX11_seal_62 5 rfl ?_
    refine x_callV C (ok_X11_tagOf mO 49 160 (32 * s) cv 48 160 (32 * s) 32 57 400 f m (mO.2.2 49 _ rfl).2.1 (by decide) (by omega) (by decide) (mO.2.2 48 _ rfl).2.1 (by decide) (by omega) (by decide) (mO.2.2 57 _ rfl).2.1 (by decide) (by omega) (by omega) (by decide) (by decide) (fun j hj => by rw [c2 48 (by decide)]; exact hbh j hj) (fun j hj => by rw [x1 j hj]; exact byt_xor (hbx j hj) (byt_strm _ _ _))) mv_X11_tagOf ml_X11_425 mO.1 rfl rfl rfl (Nat.le_of_ble_eq_true rfl) (hrm (rm := { frames := 0, cells := 0, slots := 0, locals := 0 }) hZ ⟨Nat.le_of_ble_eq_true rfl, Nat.le_of_ble_eq_true rfl⟩) (hcs hZ ⟨Nat.le_of_ble_eq_true rfl, Nat.le_of_ble_eq_true rfl⟩) dX11_seal_64 (fun v G' hp => ?_)
    obtain ⟨rfl, J2, rfl, t1, t2⟩ := hp
    show hX z 0 0 (T, J2, L, R, A) [(5, .int (nI m)), (0, .ref (A 63)), (1, .int (nI s)), (2, .ref (A 57)), (3, .int (nI f)), (4, .int (nI m))] 67 []
    refine x_aload_n C dX11_seal_67 1 rfl rfl ?_
    refine x_getrN C fl_X11_149 mO.1 rfl (mO.2.2 23 _ rfl).1 dX11_seal_68 ?_
    refine x_iconst (v := nI 0) C dX11_seal_71 (by decide +kernel) ?_
    refine x_aload_n C dX11_seal_72 3 rfl rfl ?_
    refine x_iload_n C dX11_seal_73 4 rfl rfl ?_
    refine x_iload C dX11_seal_74 5 rfl ?_
    refine x_iaddN C dX11_seal_76 ?_
    refine x_bipush (v := nI 16) C dX11_seal_77 (by decide +kernel) ?_
    refine x_callS C (ok_X11_copy 23 57 (0) ((f + m)) (16) 16 400 (mO.2.2 23 _ rfl).2.1 (mO.2.2 57 _ rfl).2.1 (mO.2.2 57 _ rfl).2.2 (by omega) (by omega) (by decide) (by decide) (fun e => absurd e (by decide))) ms_X11_copy ml_X11_270 rfl rfl (Nat.le_of_ble_eq_true rfl) (hrm (rm := { frames := 0, cells := 0, slots := 0, locals := 0 }) hZ ⟨Nat.le_of_ble_eq_true rfl, Nat.le_of_ble_eq_true rfl⟩) (hcs hZ ⟨Nat.le_of_ble_eq_true rfl, Nat.le_of_ble_eq_true rfl⟩) dX11_seal_79 (fun v G' hp => ?_)
    obtain ⟨rfl, rfl⟩ := hp
    generalize eI1 : va_up J2 57 (fun j => if (f + m) ≤ j ∧ j < (f + m) + 16 then J2 23 (0 + (j - (f + m))) else J2 57 j) = I1
    have eI1 := eI1.symm
    show hX z 0 0 (T, I1, L, R, A) [(5, .int (nI m)), (0, .ref (A 63)), (1, .int (nI s)), (2, .ref (A 57)), (3, .int (nI f)), (4, .int (nI m))] 82 []
    refine x_aload_n C dX11_seal_82 1 rfl rfl ?_
    refine x_getrN C fl_X11_204 mO.1 rfl (mO.2.2 43 _ rfl).1 dX11_seal_83 ?_
    refine x_iload_n C dX11_seal_86 2 rfl rfl ?_
    refine x_dup2 C dX11_seal_87 rfl rfl ?_
    refine x_ialdN C (mO.2.2 43 _ rfl).2.1 (by omega) (by omega) dX11_seal_88 ?_
    refine x_eqi (y := cv) (by rw [eI1, va_up_other _ _ (by decide), t2 43 (by decide), c2 43 (by decide)]; exact hcv) ?_
    refine x_iconst (v := nI 1) C dX11_seal_89 (by decide +kernel) ?_
    refine x_iadd C dX11_seal_90 ?_
    refine x_iastN C (mO.2.2 43 _ rfl).2.1 (mO.2.2 43 _ rfl).2.2 (by omega) (by omega) dX11_seal_91 (fun I2 eI2 => ?_)
    have fJ : fmS [0, 2, 3, 14, 15, 16, 17, 18, 19, 20, 21, 22, 23, 43, 48, 57] I I2 := by rw [eI2, eI1]; exact ((((fmS.of c2 (by decide)).w (by simp)).t (fmS.of t2 (by decide)) (by simp)).u (by simp) (by decide)).u (by simp) (by decide)
    refine x_iinc (v := nI (m + 16)) (lv' := [(5, .int (nI (m + 16))), (0, .ref (A 63)), (1, .int (nI s)), (2, .ref (A 57)), (3, .int (nI f)), (4, .int (nI m))]) C dX11_seal_92 0 rfl (nI_inc 16) (Nat.lt_of_lt_of_eq (by decide) hN.symm) rfl ?_
    refine x_aload_n C dX11_seal_95 1 rfl rfl ?_
    refine x_iload_n C dX11_seal_96 2 rfl rfl ?_
    refine x_aload_n C dX11_seal_97 3 rfl rfl ?_
    refine x_iload_n C dX11_seal_98 4 rfl rfl ?_
    refine x_iload C dX11_seal_99 0 rfl ?_
    refine x_callV C (ok_X11_mixHash mO s 57 400 f (m + 16) (fJ.c (by decide) (by decide) hc).1 (fJ.c (by decide) (by decide) hc).2 hs5 (mO.2.2 57 _ rfl).2.1 (by decide) (by omega) (by omega) (by decide) (by decide)) mv_X11_mixHash ml_X11_404 mO.1 rfl rfl rfl (Nat.le_of_ble_eq_true rfl) (hrm (rm := { frames := 0, cells := 0, slots := 0, locals := 0 }) hZ ⟨Nat.le_of_ble_eq_true rfl, Nat.le_of_ble_eq_true rfl⟩) (hcs hZ ⟨Nat.le_of_ble_eq_true rfl, Nat.le_of_ble_eq_true rfl⟩) dX11_seal_101 (fun v G' hp => ?_)
    obtain ⟨rfl, J5, rfl, h1, h2⟩ := hp
    show hX z 0 0 (T, J5, L, R, A) [(5, .int (nI (m + 16))), (0, .ref (A 63)), (1, .int (nI s)), (2, .ref (A 57)), (3, .int (nI f)), (4, .int (nI m))] 104 []
    refine x_iload C dX11_seal_104 0 rfl ?_
    exact x_iret C E (Nat.le_of_ble_eq_true rfl) (Nat.le_of_ble_eq_true rfl) dX11_seal_106 (by
        have ek := bI_T c10
        subst ek
        have y1 : ∀ j, j < m + 16 → I2 57 (f + j) = slF true (fun i => I 49 (32 * s + i)) cv 32 (fun j => byt (I 48 (32 * s + j))) (fun j => I 57 (f + j)) m j := fun j hj => by
          rw [eI2, va_up_other _ _ (by decide), eI1, va_up_same]
          show (if f + m ≤ f + j ∧ f + j < f + m + 16 then J2 23 (0 + (f + j - (f + m))) else J2 57 (f + j)) = encF _ _ _ _ _ _ _
          unfold encF
          by_cases h : j < m
          · rw [if_neg (by omega), if_pos h, t2 57 (by decide), x1 j h]
          · rw [if_pos (by omega), if_neg h, show 0 + (f + j - (f + m)) = j - m by omega, t1 _ (by omega), c2 49 (by decide), c2 48 (by decide)]
            congr 1
            exact tagO_cg (fun _ _ => rfl) (fun _ _ => rfl) (fun i hi => by rw [x1 i hi]) _
        have g48 : I2 48 = I 48 := by rw [eI2, va_up_other _ _ (by decide), eI1, va_up_other _ _ (by decide), t2 48 (by decide), c2 48 (by decide)]
        refine ⟨rfl, J5, rfl, fun j hj => ?_, fun t ht => ?_, (wRow.mx h1 (fun i hi => ?_)).fr g48, ?_, fJ.t h2 (by simp)⟩
        · rw [h2.o 57 (by decide) (by decide)]; exact y1 j hj
        · have ht : t < f ∨ f + (m + 16) ≤ t := ht
          rw [h2.o 57 (by decide) (by decide), eI2, va_up_other _ _ (by decide), eI1, va_up_same]
          show (if f + m ≤ t ∧ t < f + m + 16 then _ else J2 57 t) = _
          rw [if_neg (by omega), t2 57 (by decide), c1]
          show (if f ≤ t ∧ t < f + m then _ else I 57 t) = _
          rw [if_neg (by omega)]
        · rw [g48]; exact congrFun (mixF_cg (fun _ _ => rfl) (fun i hi => y1 i hi)) i
        · rw [h2.o 43 (by decide) (by decide), eI2, va_up_same, eI1, va_up_other _ _ (by decide), t2 43 (by decide), c2 43 (by decide)]; rfl)

set_option maxHeartbeats 4000000 in
set_option maxRecDepth 100000 in
theorem ok_X11_open {l : Launch} {a0 : Nat} {D : va_G} {sa : Nat → Nat} {T : Nat → Option hKd} {I : Nat → Nat → Int32} {L : Nat → Nat → Int64} {R : Nat → Nat → Option Nat} {A : Nat → Nat} (mO : isM T R A a0) (hc : shC I) (s : Nat) (hs5 : s < 5) (hk : Bool) (cv : Int32) (hhk : I 42 s = bI hk) (hcv : I 43 s = cv) (hbh : ∀ j, j < 32 → byt (I 48 (32 * s + j)) < 256) (f n : Nat) (hfn : f + n ≤ 400) (hn : n ≤ 160) (h16 : hk = true → 16 ≤ n) (hbx : ∀ j, j < n → byt (I 57 (f + j)) < 256) : hM l a0 D sa yX11_open cX11_open 7 (some .int) { frames := 4, cells := 0, slots := 0, locals := 103 } [.ref (A 63), .int (nI s), .ref (A 57), .int (nI f), .int (nI n), .ref (A 61)] (T, I, L, R, A) (fun r G' => ∃ I', G' = (T, I', L, R, A) ∧ ((r = some (.int (-6)) ∧ hk = true ∧ ¬ tagR (fun i => I 49 (32 * s + i)) cv 32 (fun j => byt (I 48 (32 * s + j))) (fun j => I 57 (f + j)) (n - 16) ∧ fmS [14, 15, 16, 17, 18, 19, 20, 21, 22, 23] I I') ∨ (r = some (.int (nI (opN hk n))) ∧ (hk = true → tagR (fun i => I 49 (32 * s + i)) cv 32 (fun j => byt (I 48 (32 * s + j))) (fun j => I 57 (f + j)) (n - 16)) ∧ (∀ j, I' 61 j = if j < opN hk n then (opF hk (fun i => I 49 (32 * s + i)) cv (fun j => I 57 (f + j))) j else I 61 j) ∧ wRow I I' 48 s (mixF (fun i => I 48 (32 * s + i)) (fun j => I 57 (f + j)) n) ∧ I' 43 = upd (I 43) s (if hk then cv + 1 else cv) ∧ fmS [0, 2, 3, 14, 15, 16, 17, 18, 19, 20, 21, 22, 23, 43, 48, 61] I I'))) := by
  refine hM.of (by decide +kernel) (Nat.le_of_ble_eq_true rfl) ?_
  intro z hl h0 hD hS hN C E
  subst hl; subst h0; subst hD; subst hS
  have C : hC z RX11 cX11_open := C
  have hZ := E.2.2.2.1
  show hX z 0 0 (T, I, L, R, A) [(0, .ref (A 63)), (1, .int (nI s)), (2, .ref (A 57)), (3, .int (nI f)), (4, .int (nI n)), (5, .ref (A 61))] 0 []
  refine x_aload_n C dX11_open_0 0 rfl rfl ?_
  refine x_getrN C fl_X11_201 mO.1 rfl (mO.2.2 42 _ rfl).1 dX11_open_1 ?_
  refine x_iload_n C dX11_open_4 1 rfl rfl ?_
  refine x_zaldN C (mO.2.2 42 _ rfl).2.1 (by omega) (by omega) dX11_open_5 ?_
  refine x_eqi (y := bI hk) hhk ?_
  refine x_if_eq (tgt := 17) C dX11_open_6 (by decide) (fun c6 => ?_) (fun c6 => ?_)
  · refine x_iload C dX11_open_17 4 rfl ?_
    refine x_istore (lv' := [(6, .int (nI n)), (0, .ref (A 63)), (1, .int (nI s)), (2, .ref (A 57)), (3, .int (nI f)), (4, .int (nI n)), (5, .ref (A 61))]) C dX11_open_19 (Nat.lt_of_lt_of_eq (by decide) hN.symm) rfl ?_
    refine x_aload_n C dX11_open_21 1 rfl rfl ?_
    refine x_getrN C fl_X11_201 mO.1 rfl (mO.2.2 42 _ rfl).1 dX11_open_22 ?_
    refine x_iload_n C dX11_open_25 2 rfl rfl ?_
    refine x_zaldN C (mO.2.2 42 _ rfl).2.1 (by omega) (by omega) dX11_open_26 ?_
    refine x_eqi (y := bI hk) hhk ?_
    refine x_if_eq (tgt := 77) C dX11_open_27 (by decide) (fun c27 => ?_) (fun c27 => absurd c27 (by rw [bI_F c6]; decide +kernel))
    refine x_aload_n C dX11_open_77 3 rfl rfl ?_
    refine x_iload_n C dX11_open_78 4 rfl rfl ?_
    refine x_aload C dX11_open_79 6 rfl ?_
    refine x_iconst (v := nI 0) C dX11_open_81 (by decide +kernel) ?_
    refine x_iload C dX11_open_82 0 rfl ?_
    refine x_callS C (ok_X11_copy 57 61 (f) (0) (n) 400 400 (mO.2.2 57 _ rfl).2.1 (mO.2.2 61 _ rfl).2.1 (mO.2.2 61 _ rfl).2.2 (by omega) (by omega) (by decide) (by decide) (fun e => absurd e (by decide))) ms_X11_copy ml_X11_270 rfl rfl (Nat.le_of_ble_eq_true rfl) (hrm (rm := { frames := 0, cells := 0, slots := 0, locals := 0 }) hZ ⟨Nat.le_of_ble_eq_true rfl, Nat.le_of_ble_eq_true rfl⟩) (hcs hZ ⟨Nat.le_of_ble_eq_true rfl, Nat.le_of_ble_eq_true rfl⟩) dX11_open_84 (fun v G' hp => ?_)
    obtain ⟨rfl, rfl⟩ := hp
    generalize eI1 : va_up I 61 (fun j => if 0 ≤ j ∧ j < 0 + n then I 57 (f + (j - 0)) else I 61 j) = I1
    have eI1 := eI1.symm
    show hX z 0 0 (T, I1, L, R, A) [(6, .int (nI n)), (0, .ref (A 63)), (1, .int (nI s)), (2, .ref (A 57)), (3, .int (nI f)), (4, .int (nI n)), (5, .ref (A 61))] 87 []
    have fA : fmS [0, 2, 3, 14, 15, 16, 17, 18, 19, 20, 21, 22, 23, 43, 48, 61] I I1 := by rw [eI1]; exact fmS.rf.u (by simp) (by decide)
    refine x_aload_n C dX11_open_87 1 rfl rfl ?_
    refine x_getrN C fl_X11_201 mO.1 rfl (mO.2.2 42 _ rfl).1 dX11_open_88 ?_
    refine x_iload_n C dX11_open_91 2 rfl rfl ?_
    refine x_zaldN C (mO.2.2 42 _ rfl).2.1 (by omega) (by omega) dX11_open_92 ?_
    refine x_eqi (y := bI hk) (by rw [eI1, va_up_other _ _ (by decide)]; exact hhk) ?_
    refine x_if_eq (tgt := 129) C dX11_open_93 (by decide) (fun c93 => ?_) (fun c93 => absurd c93 (by rw [bI_F c6]; decide +kernel))
    refine x_aload_n C dX11_open_129 1 rfl rfl ?_
    refine x_iload_n C dX11_open_130 2 rfl rfl ?_
    refine x_aload_n C dX11_open_131 3 rfl rfl ?_
    refine x_iload_n C dX11_open_132 4 rfl rfl ?_
    refine x_iload C dX11_open_133 5 rfl ?_
    refine x_callV C (ok_X11_mixHash mO s 57 400 f n (fA.c (by decide) (by decide) hc).1 (fA.c (by decide) (by decide) hc).2 hs5 (mO.2.2 57 _ rfl).2.1 (by decide) (by omega) (by omega) (by decide) (by decide)) mv_X11_mixHash ml_X11_404 mO.1 rfl rfl rfl (Nat.le_of_ble_eq_true rfl) (hrm (rm := { frames := 0, cells := 0, slots := 0, locals := 0 }) hZ ⟨Nat.le_of_ble_eq_true rfl, Nat.le_of_ble_eq_true rfl⟩) (hcs hZ ⟨Nat.le_of_ble_eq_true rfl, Nat.le_of_ble_eq_true rfl⟩) dX11_open_135 (fun v G' hp => ?_)
    obtain ⟨rfl, J5, rfl, h1, h2⟩ := hp
    show hX z 0 0 (T, J5, L, R, A) [(6, .int (nI n)), (0, .ref (A 63)), (1, .int (nI s)), (2, .ref (A 57)), (3, .int (nI f)), (4, .int (nI n)), (5, .ref (A 61))] 138 []
    refine x_iload C dX11_open_138 0 rfl ?_
    exact x_iret C E (Nat.le_of_ble_eq_true rfl) (Nat.le_of_ble_eq_true rfl) dX11_open_140 (by
        have ek := bI_F c6
        subst ek
        refine ⟨J5, rfl, Or.inr ⟨rfl, (fun h => by cases h), fun j => ?_, (wRow.mx h1 (fun i hi => ?_)).fr ?_, ?_, fA.t h2 (by simp)⟩⟩
        · rw [h2.o 61 (by decide) (by decide), eI1, va_up_same]
          show (if 0 ≤ j ∧ j < 0 + n then I 57 (f + (j - 0)) else I 61 j) = (if j < n then I 57 (f + j) else I 61 j)
          by_cases h : j < n
          · rw [if_pos (by omega), if_pos h, Nat.sub_zero]
          · rw [if_neg (by omega), if_neg h]
        · rw [eI1, va_up_other _ _ (by decide), va_up_other _ _ (by decide)]
        · rw [eI1, va_up_other _ _ (by decide)]
        · rw [h2.o 43 (by decide) (by decide), eI1, va_up_other _ _ (by decide), ← hcv]; exact (upd_id rfl).symm)
  · refine x_iload C dX11_open_9 4 rfl ?_
    refine x_bipush (v := nI 16) C dX11_open_11 (by decide +kernel) ?_
    refine x_isubN C (by have := h16 (bI_T c6); omega) dX11_open_13 ?_
    refine x_goto (tgt := 19) C dX11_open_14 (by decide) ?_
    refine x_istore (lv' := [(6, .int (nI (n - 16))), (0, .ref (A 63)), (1, .int (nI s)), (2, .ref (A 57)), (3, .int (nI f)), (4, .int (nI n)), (5, .ref (A 61))]) C dX11_open_19 (Nat.lt_of_lt_of_eq (by decide) hN.symm) rfl ?_
    refine x_aload_n C dX11_open_21 1 rfl rfl ?_
    refine x_getrN C fl_X11_201 mO.1 rfl (mO.2.2 42 _ rfl).1 dX11_open_22 ?_
    refine x_iload_n C dX11_open_25 2 rfl rfl ?_
    refine x_zaldN C (mO.2.2 42 _ rfl).2.1 (by omega) (by omega) dX11_open_26 ?_
    refine x_eqi (y := bI hk) hhk ?_
    refine x_if_eq (tgt := 77) C dX11_open_27 (by decide) (fun c27 => absurd c27 (by rw [bI_T c6]; decide +kernel)) (fun c27 => ?_)
    refine x_aload_n C dX11_open_30 1 rfl rfl ?_
    refine x_aload_n C dX11_open_31 1 rfl rfl ?_
    refine x_getrN C fl_X11_222 mO.1 rfl (mO.2.2 49 _ rfl).1 dX11_open_32 ?_
    refine x_bipush (v := nI 32) C dX11_open_35 (by decide +kernel) ?_
    refine x_iload_n C dX11_open_37 2 rfl rfl ?_
    refine x_imulN C dX11_open_38 ?_
    refine x_aload_n C dX11_open_39 1 rfl rfl ?_
    refine x_getrN C fl_X11_204 mO.1 rfl (mO.2.2 43 _ rfl).1 dX11_open_40 ?_
    refine x_iload_n C dX11_open_43 2 rfl rfl ?_
    refine x_ialdN C (mO.2.2 43 _ rfl).2.1 (by omega) (by omega) dX11_open_44 ?_
    refine x_eqi (y := cv) hcv ?_
    refine x_aload_n C dX11_open_45 1 rfl rfl ?_
    refine x_getrN C fl_X11_219 mO.1 rfl (mO.2.2 48 _ rfl).1 dX11_open_46 ?_
    refine x_bipush (v := nI 32) C dX11_open_49 (by decide +kernel) ?_
    refine x_iload_n C dX11_open_51 2 rfl rfl ?_
    refine x_imulN C dX11_open_52 ?_
    refine x_bipush (v := nI 32) C dX11_open_53 (by decide +kernel) ?_
    refine x_aload_n C dX11_open_55 3 rfl rfl ?_
    refine x_iload_n C dX11_open_56 4 rfl rfl ?_
    refine x_iload C dX11_open_57 0 rfl ?_
    refine x_callV C (ok_X11_tagOf mO 49 160 (32 * s) cv 48 160 (32 * s) 32 57 400 f (n - 16) (mO.2.2 49 _ rfl).2.1 (by decide) (by omega) (by decide) (mO.2.2 48 _ rfl).2.1 (by decide) (by omega) (by decide) (mO.2.2 57 _ rfl).2.1 (by decide) (by omega) (by omega) (by decide) (by decide) hbh (fun j hj => hbx j (by omega))) mv_X11_tagOf ml_X11_425 mO.1 rfl rfl rfl (Nat.le_of_ble_eq_true rfl) (hrm (rm := { frames := 0, cells := 0, slots := 0, locals := 0 }) hZ ⟨Nat.le_of_ble_eq_true rfl, Nat.le_of_ble_eq_true rfl⟩) (hcs hZ ⟨Nat.le_of_ble_eq_true rfl, Nat.le_of_ble_eq_true rfl⟩) dX11_open_59 (fun v G' hp => ?_)
    obtain ⟨rfl, J2, rfl, t1, t2⟩ := hp
    show hX z 0 0 (T, J2, L, R, A) [(6, .int (nI (n - 16))), (0, .ref (A 63)), (1, .int (nI s)), (2, .ref (A 57)), (3, .int (nI f)), (4, .int (nI n)), (5, .ref (A 61))] 62 []
    refine x_aload_n C dX11_open_62 1 rfl rfl ?_
    refine x_aload_n C dX11_open_63 3 rfl rfl ?_
    refine x_iload_n C dX11_open_64 4 rfl rfl ?_
    refine x_iload C dX11_open_65 0 rfl ?_
    refine x_iaddN C dX11_open_67 ?_
    refine x_callV C (ok_X11_isRight mO (f + (n - 16)) (by have := h16 (bI_T c6); omega)) mv_X11_isRight ml_X11_429 mO.1 rfl rfl rfl (Nat.le_of_ble_eq_true rfl) (hrm (rm := { frames := 0, cells := 0, slots := 0, locals := 0 }) hZ ⟨Nat.le_of_ble_eq_true rfl, Nat.le_of_ble_eq_true rfl⟩) (hcs hZ ⟨Nat.le_of_ble_eq_true rfl, Nat.le_of_ble_eq_true rfl⟩) dX11_open_68 (fun v G' hp => ?_)
    obtain ⟨⟨qr, rfl, hqr⟩, rfl⟩ := hp
    have hTR : qr = true ↔ tagR (fun i => I 49 (32 * s + i)) cv 32 (fun j => byt (I 48 (32 * s + j))) (fun j => I 57 (f + j)) (n - 16) := by rw [hqr, t2 57 (by decide)]; unfold tagR; exact ⟨fun h j hj => by rw [← t1 j hj, ← h j hj]; show _ = I 57 (f + (n - 16 + j)); rw [Nat.add_assoc], fun h j hj => by rw [t1 j hj, h j hj]; show I 57 (f + (n - 16) + j) = I 57 (f + (n - 16 + j)); rw [Nat.add_assoc]⟩
    show hX z 0 0 (T, J2, L, R, A) [(6, .int (nI (n - 16))), (0, .ref (A 63)), (1, .int (nI s)), (2, .ref (A 57)), (3, .int (nI f)), (4, .int (nI n)), (5, .ref (A 61))] 71 [.int (bI qr)]
    refine x_if_ne (tgt := 77) C dX11_open_71 (by decide) (fun c71 => ?_) (fun c71 => ?_)
    · refine x_aload_n C dX11_open_77 3 rfl rfl ?_
      refine x_iload_n C dX11_open_78 4 rfl rfl ?_
      refine x_aload C dX11_open_79 6 rfl ?_
      refine x_iconst (v := nI 0) C dX11_open_81 (by decide +kernel) ?_
      refine x_iload C dX11_open_82 0 rfl ?_
      refine x_callS C (ok_X11_copy 57 61 (f) (0) (n - 16) 400 400 (mO.2.2 57 _ rfl).2.1 (mO.2.2 61 _ rfl).2.1 (mO.2.2 61 _ rfl).2.2 (by omega) (by omega) (by decide) (by decide) (fun e => absurd e (by decide))) ms_X11_copy ml_X11_270 rfl rfl (Nat.le_of_ble_eq_true rfl) (hrm (rm := { frames := 0, cells := 0, slots := 0, locals := 0 }) hZ ⟨Nat.le_of_ble_eq_true rfl, Nat.le_of_ble_eq_true rfl⟩) (hcs hZ ⟨Nat.le_of_ble_eq_true rfl, Nat.le_of_ble_eq_true rfl⟩) dX11_open_84 (fun v G' hp => ?_)
      obtain ⟨rfl, rfl⟩ := hp
      generalize eI2 : va_up J2 61 (fun j => if 0 ≤ j ∧ j < 0 + (n - 16) then J2 57 (f + (j - 0)) else J2 61 j) = I2
      have eI2 := eI2.symm
      show hX z 0 0 (T, I2, L, R, A) [(6, .int (nI (n - 16))), (0, .ref (A 63)), (1, .int (nI s)), (2, .ref (A 57)), (3, .int (nI f)), (4, .int (nI n)), (5, .ref (A 61))] 87 []
      refine x_aload_n C dX11_open_87 1 rfl rfl ?_
      refine x_getrN C fl_X11_201 mO.1 rfl (mO.2.2 42 _ rfl).1 dX11_open_88 ?_
      refine x_iload_n C dX11_open_91 2 rfl rfl ?_
      refine x_zaldN C (mO.2.2 42 _ rfl).2.1 (by omega) (by omega) dX11_open_92 ?_
      refine x_eqi (y := bI hk) (by rw [eI2, va_up_other _ _ (by decide), t2 42 (by decide)]; exact hhk) ?_
      refine x_if_eq (tgt := 129) C dX11_open_93 (by decide) (fun c93 => absurd c93 (by rw [bI_T c6]; decide +kernel)) (fun c93 => ?_)
      refine x_aload_n C dX11_open_96 1 rfl rfl ?_
      refine x_aload_n C dX11_open_97 1 rfl rfl ?_
      refine x_getrN C fl_X11_222 mO.1 rfl (mO.2.2 49 _ rfl).1 dX11_open_98 ?_
      refine x_bipush (v := nI 32) C dX11_open_101 (by decide +kernel) ?_
      refine x_iload_n C dX11_open_103 2 rfl rfl ?_
      refine x_imulN C dX11_open_104 ?_
      refine x_aload_n C dX11_open_105 1 rfl rfl ?_
      refine x_getrN C fl_X11_204 mO.1 rfl (mO.2.2 43 _ rfl).1 dX11_open_106 ?_
      refine x_iload_n C dX11_open_109 2 rfl rfl ?_
      refine x_ialdN C (mO.2.2 43 _ rfl).2.1 (by omega) (by omega) dX11_open_110 ?_
      refine x_eqi (y := cv) (by rw [eI2, va_up_other _ _ (by decide), t2 43 (by decide)]; exact hcv) ?_
      refine x_aload C dX11_open_111 6 rfl ?_
      refine x_iconst (v := nI 0) C dX11_open_113 (by decide +kernel) ?_
      refine x_iload C dX11_open_114 0 rfl ?_
      refine x_callV C (ok_X11_ciphers mO 49 160 (32 * s) cv 61 400 0 (n - 16) (mO.2.2 49 _ rfl).2.1 (by decide) (by omega) (by decide) (mO.2.2 61 _ rfl).2.1 (by decide) (mO.2.2 61 _ rfl).2.2 (by omega) (by decide)) mv_X11_ciphers ml_X11_421 mO.1 rfl rfl rfl (Nat.le_of_ble_eq_true rfl) (hrm (rm := { frames := 0, cells := 0, slots := 0, locals := 0 }) hZ ⟨Nat.le_of_ble_eq_true rfl, Nat.le_of_ble_eq_true rfl⟩) (hcs hZ ⟨Nat.le_of_ble_eq_true rfl, Nat.le_of_ble_eq_true rfl⟩) dX11_open_116 (fun v G' hp => ?_)
      obtain ⟨rfl, J4, rfl, c1, c2⟩ := hp
      show hX z 0 0 (T, J4, L, R, A) [(6, .int (nI (n - 16))), (0, .ref (A 63)), (1, .int (nI s)), (2, .ref (A 57)), (3, .int (nI f)), (4, .int (nI n)), (5, .ref (A 61))] 119 []
      refine x_aload_n C dX11_open_119 1 rfl rfl ?_
      refine x_getrN C fl_X11_204 mO.1 rfl (mO.2.2 43 _ rfl).1 dX11_open_120 ?_
      refine x_iload_n C dX11_open_123 2 rfl rfl ?_
      refine x_dup2 C dX11_open_124 rfl rfl ?_
      refine x_ialdN C (mO.2.2 43 _ rfl).2.1 (by omega) (by omega) dX11_open_125 ?_
      refine x_eqi (y := cv) (by rw [c2 43 (by decide), eI2, va_up_other _ _ (by decide), t2 43 (by decide)]; exact hcv) ?_
      refine x_iconst (v := nI 1) C dX11_open_126 (by decide +kernel) ?_
      refine x_iadd C dX11_open_127 ?_
      refine x_iastN C (mO.2.2 43 _ rfl).2.1 (mO.2.2 43 _ rfl).2.2 (by omega) (by omega) dX11_open_128 (fun I3 eI3 => ?_)
      have fB : fmS [0, 2, 3, 14, 15, 16, 17, 18, 19, 20, 21, 22, 23, 43, 48, 61] I I3 := by rw [eI3]; exact ((show fmS [0, 2, 3, 14, 15, 16, 17, 18, 19, 20, 21, 22, 23, 43, 48, 61] I J4 from (show fmS [0, 2, 3, 14, 15, 16, 17, 18, 19, 20, 21, 22, 23, 43, 48, 61] I I2 from by rw [eI2]; exact ((fmS.of t2 (by decide)).w (by simp)).u (by simp) (by decide)).t (fmS.of c2 (by decide)) (by simp))).u (by simp) (by decide)
      refine x_aload_n C dX11_open_129 1 rfl rfl ?_
      refine x_iload_n C dX11_open_130 2 rfl rfl ?_
      refine x_aload_n C dX11_open_131 3 rfl rfl ?_
      refine x_iload_n C dX11_open_132 4 rfl rfl ?_
      refine x_iload C dX11_open_133 5 rfl ?_
      refine x_callV C (ok_X11_mixHash mO s 57 400 f n (fB.c (by decide) (by decide) hc).1 (fB.c (by decide) (by decide) hc).2 hs5 (mO.2.2 57 _ rfl).2.1 (by decide) (by omega) (by omega) (by decide) (by decide)) mv_X11_mixHash ml_X11_404 mO.1 rfl rfl rfl (Nat.le_of_ble_eq_true rfl) (hrm (rm := { frames := 0, cells := 0, slots := 0, locals := 0 }) hZ ⟨Nat.le_of_ble_eq_true rfl, Nat.le_of_ble_eq_true rfl⟩) (hcs hZ ⟨Nat.le_of_ble_eq_true rfl, Nat.le_of_ble_eq_true rfl⟩) dX11_open_135 (fun v G' hp => ?_)
      obtain ⟨rfl, J5, rfl, h1, h2⟩ := hp
      show hX z 0 0 (T, J5, L, R, A) [(6, .int (nI (n - 16))), (0, .ref (A 63)), (1, .int (nI s)), (2, .ref (A 57)), (3, .int (nI f)), (4, .int (nI n)), (5, .ref (A 61))] 138 []
      refine x_iload C dX11_open_138 0 rfl ?_
      exact x_iret C E (Nat.le_of_ble_eq_true rfl) (Nat.le_of_ble_eq_true rfl) dX11_open_140 (by
          have ek := bI_T c6
          subst ek
          have g57 : I3 57 = I 57 := by rw [eI3, va_up_other _ _ (by decide), c2 57 (by decide), eI2, va_up_other _ _ (by decide), t2 57 (by decide)]
          have g48 : I3 48 = I 48 := by rw [eI3, va_up_other _ _ (by decide), c2 48 (by decide), eI2, va_up_other _ _ (by decide), t2 48 (by decide)]
          refine ⟨J5, rfl, Or.inr ⟨rfl, (fun _ => hTR.mp (bI_T c71)), fun j => ?_, (wRow.mx h1 (fun i hi => ?_)).fr g48, ?_, fB.t h2 (by simp)⟩⟩
          · rw [h2.o 61 (by decide) (by decide), eI3, va_up_other _ _ (by decide), c1]
            show (if 0 ≤ j ∧ j < 0 + (n - 16) then I2 61 (0 + (j - 0)) ^^^ strm (fun i => I2 49 (32 * s + i)) cv (j - 0) else I2 61 j) = (if j < n - 16 then I 57 (f + j) ^^^ strm _ cv j else I 61 j)
            rw [show I2 49 = I 49 from by rw [eI2, va_up_other _ _ (by decide), t2 49 (by decide)], eI2, va_up_same]
            by_cases h : j < n - 16
            · rw [if_pos (by omega), if_pos h]
              show (if 0 ≤ 0 + (j - 0) ∧ 0 + (j - 0) < 0 + (n - 16) then J2 57 (f + (0 + (j - 0) - 0)) else _) ^^^ _ = _
              rw [if_pos (by omega), t2 57 (by decide), show 0 + (j - 0) - 0 = j by omega, show j - 0 = j by omega]
            · rw [if_neg (by omega), if_neg h]
              show (if 0 ≤ j ∧ j < 0 + (n - 16) then _ else J2 61 j) = _
              rw [if_neg (by omega), t2 61 (by decide)]
          · rw [g48, g57]
          · rw [h2.o 43 (by decide) (by decide), eI3, va_up_same, c2 43 (by decide), eI2, va_up_other _ _ (by decide), t2 43 (by decide)]; rfl)
    · refine x_bipush (v := (-6)) C dX11_open_74 (by decide +kernel) ?_
      exact x_iret C E (Nat.le_of_ble_eq_true rfl) (Nat.le_of_ble_eq_true rfl) dX11_open_76 (⟨J2, rfl, Or.inl ⟨rfl, bI_T c6, (fun h => by have := hTR.mpr h; rw [bI_F c71] at this; cases this), fmS.of t2 (by decide)⟩⟩)

