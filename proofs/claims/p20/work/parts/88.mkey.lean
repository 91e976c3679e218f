/-! ===== the model: keys of a side, seal, open ===== -/
/-- the row of the side s in the array c became f; the rest of c stayed -/
def wRow (I J : Nat → Nat → Int32) (c s : Nat) (f : Nat → Int32) : Prop := (∀ i, i < 32 → J c (32 * s + i) = f i) ∧ ∀ j, ¬ (32 * s ≤ j ∧ j < 32 * s + 32) → J c j = I c j
theorem wRow.cp {I J K : Nat → Nat → Int32} {c s a : Nat} {f : Nat → Int32} (e : K c = (fun j => if 32 * s ≤ j ∧ j < 32 * s + 32 then J a (0 + (j - 32 * s)) else J c j)) (h1 : ∀ i, i < 32 → J a i = f i) (h2 : J c = I c) : wRow I K c s f := by
  refine ⟨fun i hi => ?_, fun j hj => ?_⟩
  · rw [e]
    show (if 32 * s ≤ 32 * s + i ∧ 32 * s + i < 32 * s + 32 then J a (0 + (32 * s + i - 32 * s)) else _) = _
    rw [if_pos (by omega), show 0 + (32 * s + i - 32 * s) = i by omega, h1 i hi]
  · rw [e]
    show (if 32 * s ≤ j ∧ j < 32 * s + 32 then _ else J c j) = _
    rw [if_neg hj, h2]
theorem wRow.to {I J K : Nat → Nat → Int32} {c s : Nat} {f : Nat → Int32} (h : wRow I J c s f) (e : K c = J c) : wRow I K c s f := by unfold wRow; rw [e]; exact h
theorem fmS.o {S : List Nat} {I J : Nat → Nat → Int32} (h : fmS S I J) (q : Nat) (h1 : q ∉ S) (h2 : q ≠ 63) : J q = I q := h.1 q h1 h2
theorem fmS.u {S : List Nat} {I J : Nat → Nat → Int32} {q : Nat} {f : Nat → Int32} (h : fmS S I J) (hq : q ∈ S) (h63 : q ≠ 63) : fmS S I (va_up J q f) := ⟨fun p h1 h2 => by rw [va_up_other _ _ (fun e => h1 (by rw [e]; exact hq))]; exact h.1 p h1 h2, fun j hj => by rw [va_up_other _ _ (Ne.symm h63)]; exact h.2 j hj⟩
theorem fmS.t {S U : List Nat} {I J K : Nat → Nat → Int32} (h : fmS S I J) (k : fmS U J K) (hs : ∀ q, q ∈ U → q ∈ S) : fmS S I K := ⟨fun p h1 h2 => (k.1 p (fun e => h1 (hs p e)) h2).trans (h.1 p h1 h2), fun j hj => (k.2 j hj).trans (h.2 j hj)⟩
theorem fmS.w {S U : List Nat} {I J : Nat → Nat → Int32} (h : fmS S I J) (hs : ∀ q, q ∈ S → q ∈ U) : fmS U I J := ⟨fun p h1 h2 => h.1 p (fun e => h1 (hs p e)) h2, h.2⟩
theorem fmS.of {S : List Nat} {I J : Nat → Nat → Int32} (h : fx S I J) (h63 : 63 ∉ S) : fmS S I J := ⟨fun p h1 _ => h p h1, fun j _ => by rw [h 63 h63]⟩
/-- the constants of the hash are there -/
def shC (I : Nat → Nat → Int32) : Prop := (∀ t, t < 8 → I 4 t = fSha t) ∧ ∀ t, t < 64 → I 5 t = kSha t
theorem fmS.c {S : List Nat} {I J : Nat → Nat → Int32} (h : fmS S I J) (h4 : 4 ∉ S) (h5 : 5 ∉ S) (k : shC I) : shC J := by unfold shC; rw [h.1 4 h4 (by decide), h.1 5 h5 (by decide)]; exact k
set_option maxHeartbeats 4000000 in
set_option maxRecDepth 100000 in
theorem ok_X11_mixKey {l : Launch} {a0 : Nat} {D : va_G} {sa : Nat → Nat} {T : Nat → Option hKd} {I : Nat → Nat → Int32} {L : Nat → Nat → Int64} {R : Nat → Nat → Option Nat} {A : Nat → Nat} (mO : isM T R A a0) (hc : shC I) (s : Nat) (hs5 : s < 5)  : hM l a0 D sa yX11_mixKey cX11_mixKey 2 none { frames := 5, cells := 0, slots := 0, locals := 131 } [.ref (A 63), .int (nI s)] (T, I, L, R, A) (fun r G' => r = none ∧ ∃ I', G' = (T, I', L, R, A) ∧ wRow I I' 47 s (key1 (fun i => I 47 (32 * s + i)) (I 62) 32) ∧ wRow I I' 49 s (key2 (fun i => I 47 (32 * s + i)) (I 62) 32) ∧ I' 42 = upd (I 42) s (nI 1) ∧ I' 43 = upd (I 43) s (nI 0) ∧ fmS [0, 2, 3, 6, 7, 8, 9, 42, 43, 47, 49] I I') := by
  refine hM.of (by decide +kernel) (Nat.le_of_ble_eq_true rfl) ?_
  intro z hl h0 hD hS hN C E
  subst hl; subst h0; subst hD; subst hS
  have C : hC z RX11 cX11_mixKey := C
  have hZ := E.2.2.2.1
  show hX z 0 0 (T, I, L, R, A) [(0, .ref (A 63)), (1, .int (nI s))] 0 []
  refine x_aload_n C dX11_mixKey_0 0 rfl rfl ?_
  refine x_aload_n C dX11_mixKey_1 0 rfl rfl ?_
  refine x_getrN C fl_X11_216 mO.1 rfl (mO.2.2 47 _ rfl).1 dX11_mixKey_2 ?_
  refine x_bipush (v := nI 32) C dX11_mixKey_5 (by decide +kernel) ?_
  refine x_iload_n C dX11_mixKey_7 1 rfl rfl ?_
  refine x_imulN C dX11_mixKey_8 ?_
  refine x_aload_n C dX11_mixKey_9 0 rfl rfl ?_
  refine x_getrN C fl_X11_252 mO.1 rfl (mO.2.2 62 _ rfl).1 dX11_mixKey_10 ?_
  refine x_bipush (v := nI 32) C dX11_mixKey_13 (by decide +kernel) ?_
  refine x_callV C (ok_X11_keys mO 47 160 (32 * s) 62 32 32 hc.1 hc.2 (mO.2.2 47 _ rfl).2.1 (by decide) (by omega) (by decide) (mO.2.2 62 _ rfl).2.1 (by decide) (by decide) (by decide) (by decide) (by decide)) mv_X11_keys ml_X11_390 mO.1 rfl rfl rfl (Nat.le_of_ble_eq_true rfl) (hrm (rm := { frames := 0, cells := 0, slots := 0, locals := 0 }) hZ ⟨Nat.le_of_ble_eq_true rfl, Nat.le_of_ble_eq_true rfl⟩) (hcs hZ ⟨Nat.le_of_ble_eq_true rfl, Nat.le_of_ble_eq_true rfl⟩) dX11_mixKey_15 (fun v G' hp => ?_)
  obtain ⟨rfl, J1, rfl, k1, k2, k3⟩ := hp
  have f_J1 : fmS [0, 2, 3, 6, 7, 8, 9, 42, 43, 47, 49] I J1 := k3.w (by simp)
  show hX z 0 0 (T, J1, L, R, A) [(0, .ref (A 63)), (1, .int (nI s))] 18 []
  refine x_aload_n C dX11_mixKey_18 0 rfl rfl ?_
  refine x_getrN C fl_X11_103 mO.1 rfl (mO.2.2 8 _ rfl).1 dX11_mixKey_19 ?_
  refine x_iconst (v := nI 0) C dX11_mixKey_22 (by decide +kernel) ?_
  refine x_aload_n C dX11_mixKey_23 0 rfl rfl ?_
  refine x_getrN C fl_X11_216 mO.1 rfl (mO.2.2 47 _ rfl).1 dX11_mixKey_24 ?_
  refine x_bipush (v := nI 32) C dX11_mixKey_27 (by decide +kernel) ?_
  refine x_iload_n C dX11_mixKey_29 1 rfl rfl ?_
  refine x_imulN C dX11_mixKey_30 ?_
  refine x_bipush (v := nI 32) C dX11_mixKey_31 (by decide +kernel) ?_
  refine x_callS C (ok_X11_copy 8 47 (0) ((32 * s)) (32) 33 160 (mO.2.2 8 _ rfl).2.1 (mO.2.2 47 _ rfl).2.1 (mO.2.2 47 _ rfl).2.2 (by omega) (by omega) (by decide) (by decide) (fun e => absurd e (by decide))) ms_X11_copy ml_X11_270 rfl rfl (Nat.le_of_ble_eq_true rfl) (hrm (rm := { frames := 0, cells := 0, slots := 0, locals := 0 }) hZ ⟨Nat.le_of_ble_eq_true rfl, Nat.le_of_ble_eq_true rfl⟩) (hcs hZ ⟨Nat.le_of_ble_eq_true rfl, Nat.le_of_ble_eq_true rfl⟩) dX11_mixKey_33 (fun v G' hp => ?_)
  obtain ⟨rfl, rfl⟩ := hp
  generalize eI1 : va_up J1 47 (fun j => if (32 * s) ≤ j ∧ j < (32 * s) + 32 then J1 8 (0 + (j - (32 * s))) else J1 47 j) = I1
  have eI1 := eI1.symm
  show hX z 0 0 (T, I1, L, R, A) [(0, .ref (A 63)), (1, .int (nI s))] 36 []
  refine x_aload_n C dX11_mixKey_36 0 rfl rfl ?_
  refine x_getrN C fl_X11_106 mO.1 rfl (mO.2.2 9 _ rfl).1 dX11_mixKey_37 ?_
  refine x_iconst (v := nI 0) C dX11_mixKey_40 (by decide +kernel) ?_
  refine x_aload_n C dX11_mixKey_41 0 rfl rfl ?_
  refine x_getrN C fl_X11_222 mO.1 rfl (mO.2.2 49 _ rfl).1 dX11_mixKey_42 ?_
  refine x_bipush (v := nI 32) C dX11_mixKey_45 (by decide +kernel) ?_
  refine x_iload_n C dX11_mixKey_47 1 rfl rfl ?_
  refine x_imulN C dX11_mixKey_48 ?_
  refine x_bipush (v := nI 32) C dX11_mixKey_49 (by decide +kernel) ?_
  refine x_callS C (ok_X11_copy 9 49 (0) ((32 * s)) (32) 32 160 (mO.2.2 9 _ rfl).2.1 (mO.2.2 49 _ rfl).2.1 (mO.2.2 49 _ rfl).2.2 (by omega) (by omega) (by decide) (by decide) (fun e => absurd e (by decide))) ms_X11_copy ml_X11_270 rfl rfl (Nat.le_of_ble_eq_true rfl) (hrm (rm := { frames := 0, cells := 0, slots := 0, locals := 0 }) hZ ⟨Nat.le_of_ble_eq_true rfl, Nat.le_of_ble_eq_true rfl⟩) (hcs hZ ⟨Nat.le_of_ble_eq_true rfl, Nat.le_of_ble_eq_true rfl⟩) dX11_mixKey_51 (fun v G' hp => ?_)
  obtain ⟨rfl, rfl⟩ := hp
  generalize eI2 : va_up I1 49 (fun j => if (32 * s) ≤ j ∧ j < (32 * s) + 32 then I1 9 (0 + (j - (32 * s))) else I1 49 j) = I2
  have eI2 := eI2.symm
  show hX z 0 0 (T, I2, L, R, A) [(0, .ref (A 63)), (1, .int (nI s))] 54 []
  refine x_aload_n C dX11_mixKey_54 0 rfl rfl ?_
  refine x_getrN C fl_X11_201 mO.1 rfl (mO.2.2 42 _ rfl).1 dX11_mixKey_55 ?_
  refine x_iload_n C dX11_mixKey_58 1 rfl rfl ?_
  refine x_iconst (v := nI 1) C dX11_mixKey_59 (by decide +kernel) ?_
  refine x_zastN C (mO.2.2 42 _ rfl).2.1 (mO.2.2 42 _ rfl).2.2 (by omega) (by omega) (by first | exact Or.inl rfl | exact Or.inr rfl | assumption) dX11_mixKey_60 (fun I3 eI3 => ?_)
  refine x_aload_n C dX11_mixKey_61 0 rfl rfl ?_
  refine x_getrN C fl_X11_204 mO.1 rfl (mO.2.2 43 _ rfl).1 dX11_mixKey_62 ?_
  refine x_iload_n C dX11_mixKey_65 1 rfl rfl ?_
  refine x_iconst (v := nI 0) C dX11_mixKey_66 (by decide +kernel) ?_
  refine x_iastN C (mO.2.2 43 _ rfl).2.1 (mO.2.2 43 _ rfl).2.2 (by omega) (by omega) dX11_mixKey_67 (fun I4 eI4 => ?_)
  have w47 : wRow I I1 47 s (key1 (fun i => I 47 (32 * s + i)) (I 62) 32) := wRow.cp (J := J1) (a := 8) (by rw [eI1, va_up_same]) k1 (k3.o 47 (by decide) (by decide))
  have w49 : wRow I I2 49 s (key2 (fun i => I 47 (32 * s + i)) (I 62) 32) := wRow.cp (J := I1) (a := 9) (by rw [eI2, va_up_same]) (fun i hi => by rw [eI1, va_up_other _ _ (by decide)]; exact k2 i hi) (by rw [eI1, va_up_other _ _ (by decide)]; exact k3.o 49 (by decide) (by decide))
  exact x_vret C E (Nat.le_of_ble_eq_true rfl) (Nat.le_of_ble_eq_true rfl) dX11_mixKey_68 (⟨rfl, _, rfl, w47.to (by rw [eI4, va_up_other _ _ (by decide), eI3, va_up_other _ _ (by decide), eI2, va_up_other _ _ (by decide)]), w49.to (by rw [eI4, va_up_other _ _ (by decide), eI3, va_up_other _ _ (by decide)]), by rw [eI4, va_up_other _ _ (by decide), eI3, va_up_same, eI2, va_up_other _ _ (by decide), eI1, va_up_other _ _ (by decide), k3.o 42 (by decide) (by decide)], by rw [eI4, va_up_same, eI3, va_up_other _ _ (by decide), eI2, va_up_other _ _ (by decide), eI1, va_up_other _ _ (by decide), k3.o 43 (by decide) (by decide)], by rw [eI4, eI3, eI2, eI1]; exact (((f_J1.u (by simp) (by decide)).u (by simp) (by decide)).u (by simp) (by decide)).u (by simp) (by decide)⟩)

set_option maxHeartbeats 4000000 in
set_option maxRecDepth 100000 in
theorem ok_X11_shares {l : Launch} {a0 : Nat} {D : va_G} {sa : Nat → Nat} {T : Nat → Option hKd} {I : Nat → Nat → Int32} {L : Nat → Nat → Int64} {R : Nat → Nat → Option Nat} {A : Nat → Nat} (mO : isM T R A a0) (s : Nat) (hs5 : s < 5) (ha t : Nat) (hha : I 35 s = nI ha) (ha2 : ha < 2) (ht : 2 ≤ t ∧ t ≤ 5) (hbE : ∀ j, j < 32 → byt (I 54 (32 * s + j)) < 256) (hbS : xEb t ha = false → ∀ j, j < 32 → byt (I 53 (32 * s + j)) < 256) : hM l a0 D sa yX11_shares cX11_shares 8 none { frames := 4, cells := 0, slots := 0, locals := 98 } [.ref (A 63), .int (nI s), .int (nI t)] (T, I, L, R, A) (fun r G' => r = none ∧ ∃ I' L', G' = (T, I', L', R, A) ∧ (∀ i, i < 32 → I' 62 i = dhF (fun j => I (if oEb t ha then 52 else 51) (32 * s + j)) (fun j => byt (I (if xEb t ha then 54 else 53) (32 * s + j))) i) ∧ fx [12, 62] I I') := by
  refine hM.of (by decide +kernel) (Nat.le_of_ble_eq_true rfl) ?_
  intro z hl h0 hD hS hN C E
  subst hl; subst h0; subst hD; subst hS
  have C : hC z RX11 cX11_shares := C
  have hZ := E.2.2.2.1
  show hX z 0 0 (T, I, L, R, A) [(0, .ref (A 63)), (1, .int (nI s)), (2, .int (nI t))] 0 []
  have J14 : ∀ (zr : Bool), (zr = decide (ha = 0)) → hX z 0 0 (T, I, L, R, A) [(0, .ref (A 63)), (1, .int (nI s)), (2, .int (nI t))] 14 [.int (bI zr)] := by
    intro zr hz
    refine x_istore_n (lv' := [(3, .int (bI zr)), (0, .ref (A 63)), (1, .int (nI s)), (2, .int (nI t))]) C dX11_shares_14 rfl (Nat.lt_of_lt_of_eq (by decide) hN.symm) rfl ?_
    have J42 : ∀ (ow : Bool), (ow = oEb t ha) → hX z 0 0 (T, I, L, R, A) [(3, .int (bI zr)), (0, .ref (A 63)), (1, .int (nI s)), (2, .int (nI t))] 42 [.int (bI ow)] := by
      intro ow how
      refine x_istore (lv' := [(4, .int (bI ow)), (3, .int (bI zr)), (0, .ref (A 63)), (1, .int (nI s)), (2, .int (nI t))]) C dX11_shares_42 (Nat.lt_of_lt_of_eq (by decide) hN.symm) rfl ?_
      have J71 : ∀ (ot : Bool), (ot = xEb t ha) → hX z 0 0 (T, I, L, R, A) [(4, .int (bI ow)), (3, .int (bI zr)), (0, .ref (A 63)), (1, .int (nI s)), (2, .int (nI t))] 71 [.int (bI ot)] := by
        intro ot hot
        refine x_istore (lv' := [(5, .int (bI ot)), (4, .int (bI ow)), (3, .int (bI zr)), (0, .ref (A 63)), (1, .int (nI s)), (2, .int (nI t))]) C dX11_shares_71 (Nat.lt_of_lt_of_eq (by decide) hN.symm) rfl ?_
        refine x_iload C dX11_shares_73 1 rfl ?_
        refine x_if_eq (tgt := 85) C dX11_shares_75 (by decide) (fun c75 => ?_) (fun c75 => ?_)
        · refine x_aload_n C dX11_shares_85 3 rfl rfl ?_
          refine x_getrN C fl_X11_228 mO.1 rfl (mO.2.2 51 _ rfl).1 dX11_shares_86 ?_
          refine x_astore (lv' := [(6, .ref (A 51)), (5, .int (bI ot)), (4, .int (bI ow)), (3, .int (bI zr)), (0, .ref (A 63)), (1, .int (nI s)), (2, .int (nI t))]) C dX11_shares_89 (Nat.lt_of_lt_of_eq (by decide) hN.symm) rfl ?_
          refine x_iload C dX11_shares_91 1 rfl ?_
          refine x_if_eq (tgt := 103) C dX11_shares_93 (by decide) (fun c93 => ?_) (fun c93 => ?_)
          · refine x_aload_n C dX11_shares_103 4 rfl rfl ?_
            refine x_getrN C fl_X11_234 mO.1 rfl (mO.2.2 53 _ rfl).1 dX11_shares_104 ?_
            refine x_astore (lv' := [(7, .ref (A 53)), (6, .ref (A 51)), (5, .int (bI ot)), (4, .int (bI ow)), (3, .int (bI zr)), (0, .ref (A 63)), (1, .int (nI s)), (2, .int (nI t))]) C dX11_shares_107 (Nat.lt_of_lt_of_eq (by decide) hN.symm) rfl ?_
            refine x_aload_n C dX11_shares_109 5 rfl rfl ?_
            refine x_aload C dX11_shares_110 1 rfl ?_
            refine x_bipush (v := nI 32) C dX11_shares_112 (by decide +kernel) ?_
            refine x_iload_n C dX11_shares_114 6 rfl rfl ?_
            refine x_imulN C dX11_shares_115 ?_
            refine x_aload C dX11_shares_116 0 rfl ?_
            refine x_bipush (v := nI 32) C dX11_shares_118 (by decide +kernel) ?_
            refine x_iload_n C dX11_shares_120 6 rfl rfl ?_
            refine x_imulN C dX11_shares_121 ?_
            refine x_aload_n C dX11_shares_122 5 rfl rfl ?_
            refine x_getrN C fl_X11_252 mO.1 rfl (mO.2.2 62 _ rfl).1 dX11_shares_123 ?_
            refine x_iconst (v := nI 0) C dX11_shares_126 (by decide +kernel) ?_
            refine x_callV C (ok_X11_dh mO 51 160 (32 * s) 53 160 (32 * s) 62 32 0 (fun j => byt (I 53 (32 * s + j))) (mO.2.2 51 _ rfl).2.1 (by decide) (by omega) (by decide) (mO.2.2 53 _ rfl).2.1 (by decide) (by omega) (by decide) (mO.2.2 62 _ rfl).2.1 (mO.2.2 62 _ rfl).2.2 (by decide) (by decide) (by decide) (fun j hj => ⟨nI_byt _, by first | exact hbE j hj | exact hbS (hot.symm.trans (bI_F c93)) j hj⟩)) mv_X11_dh ml_X11_335 mO.1 rfl rfl rfl (Nat.le_of_ble_eq_true rfl) (hrm (rm := { frames := 0, cells := 0, slots := 0, locals := 0 }) hZ ⟨Nat.le_of_ble_eq_true rfl, Nat.le_of_ble_eq_true rfl⟩) (hcs hZ ⟨Nat.le_of_ble_eq_true rfl, Nat.le_of_ble_eq_true rfl⟩) dX11_shares_127 (fun v G' hp => ?_)
            obtain ⟨rfl, K, L1, rfl, k1, k2⟩ := hp
            show hX z 0 0 (T, K, L1, R, A) [(7, .ref (A 53)), (6, .ref (A 51)), (5, .int (bI ot)), (4, .int (bI ow)), (3, .int (bI zr)), (0, .ref (A 63)), (1, .int (nI s)), (2, .int (nI t))] 130 []
            exact x_vret C E (Nat.le_of_ble_eq_true rfl) (Nat.le_of_ble_eq_true rfl) dX11_shares_130 (⟨rfl, K, L1, rfl, fun i hi => by rw [k1, if_neg (by rw [← how, bI_F c75]; decide), if_neg (by rw [← hot, bI_F c93]; decide)]; show (if 0 ≤ i ∧ i < 0 + 32 then _ else _) = _; rw [if_pos (by omega)]; rfl, k2⟩)
          · refine x_aload_n C dX11_shares_96 4 rfl rfl ?_
            refine x_getrN C fl_X11_237 mO.1 rfl (mO.2.2 54 _ rfl).1 dX11_shares_97 ?_
            refine x_goto (tgt := 107) C dX11_shares_100 (by decide) ?_
            refine x_astore (lv' := [(7, .ref (A 54)), (6, .ref (A 51)), (5, .int (bI ot)), (4, .int (bI ow)), (3, .int (bI zr)), (0, .ref (A 63)), (1, .int (nI s)), (2, .int (nI t))]) C dX11_shares_107 (Nat.lt_of_lt_of_eq (by decide) hN.symm) rfl ?_
            refine x_aload_n C dX11_shares_109 5 rfl rfl ?_
            refine x_aload C dX11_shares_110 1 rfl ?_
            refine x_bipush (v := nI 32) C dX11_shares_112 (by decide +kernel) ?_
            refine x_iload_n C dX11_shares_114 6 rfl rfl ?_
            refine x_imulN C dX11_shares_115 ?_
            refine x_aload C dX11_shares_116 0 rfl ?_
            refine x_bipush (v := nI 32) C dX11_shares_118 (by decide +kernel) ?_
            refine x_iload_n C dX11_shares_120 6 rfl rfl ?_
            refine x_imulN C dX11_shares_121 ?_
            refine x_aload_n C dX11_shares_122 5 rfl rfl ?_
            refine x_getrN C fl_X11_252 mO.1 rfl (mO.2.2 62 _ rfl).1 dX11_shares_123 ?_
            refine x_iconst (v := nI 0) C dX11_shares_126 (by decide +kernel) ?_
            refine x_callV C (ok_X11_dh mO 51 160 (32 * s) 54 160 (32 * s) 62 32 0 (fun j => byt (I 54 (32 * s + j))) (mO.2.2 51 _ rfl).2.1 (by decide) (by omega) (by decide) (mO.2.2 54 _ rfl).2.1 (by decide) (by omega) (by decide) (mO.2.2 62 _ rfl).2.1 (mO.2.2 62 _ rfl).2.2 (by decide) (by decide) (by decide) (fun j hj => ⟨nI_byt _, by first | exact hbE j hj | exact hbS (hot.symm.trans (bI_F c93)) j hj⟩)) mv_X11_dh ml_X11_335 mO.1 rfl rfl rfl (Nat.le_of_ble_eq_true rfl) (hrm (rm := { frames := 0, cells := 0, slots := 0, locals := 0 }) hZ ⟨Nat.le_of_ble_eq_true rfl, Nat.le_of_ble_eq_true rfl⟩) (hcs hZ ⟨Nat.le_of_ble_eq_true rfl, Nat.le_of_ble_eq_true rfl⟩) dX11_shares_127 (fun v G' hp => ?_)
            obtain ⟨rfl, K, L1, rfl, k1, k2⟩ := hp
            show hX z 0 0 (T, K, L1, R, A) [(7, .ref (A 54)), (6, .ref (A 51)), (5, .int (bI ot)), (4, .int (bI ow)), (3, .int (bI zr)), (0, .ref (A 63)), (1, .int (nI s)), (2, .int (nI t))] 130 []
            exact x_vret C E (Nat.le_of_ble_eq_true rfl) (Nat.le_of_ble_eq_true rfl) dX11_shares_130 (⟨rfl, K, L1, rfl, fun i hi => by rw [k1, if_neg (by rw [← how, bI_F c75]; decide), if_pos (hot.symm.trans (bI_T c93))]; show (if 0 ≤ i ∧ i < 0 + 32 then _ else _) = _; rw [if_pos (by omega)]; rfl, k2⟩)
        · refine x_aload_n C dX11_shares_78 3 rfl rfl ?_
          refine x_getrN C fl_X11_231 mO.1 rfl (mO.2.2 52 _ rfl).1 dX11_shares_79 ?_
          refine x_goto (tgt := 89) C dX11_shares_82 (by decide) ?_
          refine x_astore (lv' := [(6, .ref (A 52)), (5, .int (bI ot)), (4, .int (bI ow)), (3, .int (bI zr)), (0, .ref (A 63)), (1, .int (nI s)), (2, .int (nI t))]) C dX11_shares_89 (Nat.lt_of_lt_of_eq (by decide) hN.symm) rfl ?_
          refine x_iload C dX11_shares_91 1 rfl ?_
          refine x_if_eq (tgt := 103) C dX11_shares_93 (by decide) (fun c93 => ?_) (fun c93 => ?_)
          · refine x_aload_n C dX11_shares_103 4 rfl rfl ?_
            refine x_getrN C fl_X11_234 mO.1 rfl (mO.2.2 53 _ rfl).1 dX11_shares_104 ?_
            refine x_astore (lv' := [(7, .ref (A 53)), (6, .ref (A 52)), (5, .int (bI ot)), (4, .int (bI ow)), (3, .int (bI zr)), (0, .ref (A 63)), (1, .int (nI s)), (2, .int (nI t))]) C dX11_shares_107 (Nat.lt_of_lt_of_eq (by decide) hN.symm) rfl ?_
            refine x_aload_n C dX11_shares_109 5 rfl rfl ?_
            refine x_aload C dX11_shares_110 1 rfl ?_
            refine x_bipush (v := nI 32) C dX11_shares_112 (by decide +kernel) ?_
            refine x_iload_n C dX11_shares_114 6 rfl rfl ?_
            refine x_imulN C dX11_shares_115 ?_
            refine x_aload C dX11_shares_116 0 rfl ?_
            refine x_bipush (v := nI 32) C dX11_shares_118 (by decide +kernel) ?_
            refine x_iload_n C dX11_shares_120 6 rfl rfl ?_
            refine x_imulN C dX11_shares_121 ?_
            refine x_aload_n C dX11_shares_122 5 rfl rfl ?_
            refine x_getrN C fl_X11_252 mO.1 rfl (mO.2.2 62 _ rfl).1 dX11_shares_123 ?_
            refine x_iconst (v := nI 0) C dX11_shares_126 (by decide +kernel) ?_
            refine x_callV C (ok_X11_dh mO 52 160 (32 * s) 53 160 (32 * s) 62 32 0 (fun j => byt (I 53 (32 * s + j))) (mO.2.2 52 _ rfl).2.1 (by decide) (by omega) (by decide) (mO.2.2 53 _ rfl).2.1 (by decide) (by omega) (by decide) (mO.2.2 62 _ rfl).2.1 (mO.2.2 62 _ rfl).2.2 (by decide) (by decide) (by decide) (fun j hj => ⟨nI_byt _, by first | exact hbE j hj | exact hbS (hot.symm.trans (bI_F c93)) j hj⟩)) mv_X11_dh ml_X11_335 mO.1 rfl rfl rfl (Nat.le_of_ble_eq_true rfl) (hrm (rm := { frames := 0, cells := 0, slots := 0, locals := 0 }) hZ ⟨Nat.le_of_ble_eq_true rfl, Nat.le_of_ble_eq_true rfl⟩) (hcs hZ ⟨Nat.le_of_ble_eq_true rfl, Nat.le_of_ble_eq_true rfl⟩) dX11_shares_127 (fun v G' hp => ?_)
            obtain ⟨rfl, K, L1, rfl, k1, k2⟩ := hp
            show hX z 0 0 (T, K, L1, R, A) [(7, .ref (A 53)), (6, .ref (A 52)), (5, .int (bI ot)), (4, .int (bI ow)), (3, .int (bI zr)), (0, .ref (A 63)), (1, .int (nI s)), (2, .int (nI t))] 130 []
            exact x_vret C E (Nat.le_of_ble_eq_true rfl) (Nat.le_of_ble_eq_true rfl) dX11_shares_130 (⟨rfl, K, L1, rfl, fun i hi => by rw [k1, if_pos (how.symm.trans (bI_T c75)), if_neg (by rw [← hot, bI_F c93]; decide)]; show (if 0 ≤ i ∧ i < 0 + 32 then _ else _) = _; rw [if_pos (by omega)]; rfl, k2⟩)
          · refine x_aload_n C dX11_shares_96 4 rfl rfl ?_
            refine x_getrN C fl_X11_237 mO.1 rfl (mO.2.2 54 _ rfl).1 dX11_shares_97 ?_
            refine x_goto (tgt := 107) C dX11_shares_100 (by decide) ?_
            refine x_astore (lv' := [(7, .ref (A 54)), (6, .ref (A 52)), (5, .int (bI ot)), (4, .int (bI ow)), (3, .int (bI zr)), (0, .ref (A 63)), (1, .int (nI s)), (2, .int (nI t))]) C dX11_shares_107 (Nat.lt_of_lt_of_eq (by decide) hN.symm) rfl ?_
            refine x_aload_n C dX11_shares_109 5 rfl rfl ?_
            refine x_aload C dX11_shares_110 1 rfl ?_
            refine x_bipush (v := nI 32) C dX11_shares_112 (by decide +kernel) ?_
            refine x_iload_n C dX11_shares_114 6 rfl rfl ?_
            refine x_imulN C dX11_shares_115 ?_
            refine x_aload C dX11_shares_116 0 rfl ?_
            refine x_bipush (v := nI 32) C dX11_shares_118 (by decide +kernel) ?_
            refine x_iload_n C dX11_shares_120 6 rfl rfl ?_
            refine x_imulN C dX11_shares_121 ?_
            refine x_aload_n C dX11_shares_122 5 rfl rfl ?_
            refine x_getrN C fl_X11_252 mO.1 rfl (mO.2.2 62 _ rfl).1 dX11_shares_123 ?_
            refine x_iconst (v := nI 0) C dX11_shares_126 (by decide +kernel) ?_
            refine x_callV C (ok_X11_dh mO 52 160 (32 * s) 54 160 (32 * s) 62 32 0 (fun j => byt (I 54 (32 * s + j))) (mO.2.2 52 _ rfl).2.1 (by decide) (by omega) (by decide) (mO.2.2 54 _ rfl).2.1 (by decide) (by omega) (by decide) (mO.2.2 62 _ rfl).2.1 (mO.2.2 62 _ rfl).2.2 (by decide) (by decide) (by decide) (fun j hj => ⟨nI_byt _, by first | exact hbE j hj | exact hbS (hot.symm.trans (bI_F c93)) j hj⟩)) mv_X11_dh ml_X11_335 mO.1 rfl rfl rfl (Nat.le_of_ble_eq_true rfl) (hrm (rm := { frames := 0, cells := 0, slots := 0, locals := 0 }) hZ ⟨Nat.le_of_ble_eq_true rfl, Nat.le_of_ble_eq_true rfl⟩) (hcs hZ ⟨Nat.le_of_ble_eq_true rfl, Nat.le_of_ble_eq_true rfl⟩) dX11_shares_127 (fun v G' hp => ?_)
            obtain ⟨rfl, K, L1, rfl, k1, k2⟩ := hp
            show hX z 0 0 (T, K, L1, R, A) [(7, .ref (A 54)), (6, .ref (A 52)), (5, .int (bI ot)), (4, .int (bI ow)), (3, .int (bI zr)), (0, .ref (A 63)), (1, .int (nI s)), (2, .int (nI t))] 130 []
            exact x_vret C E (Nat.le_of_ble_eq_true rfl) (Nat.le_of_ble_eq_true rfl) dX11_shares_130 (⟨rfl, K, L1, rfl, fun i hi => by rw [k1, if_pos (how.symm.trans (bI_T c75)), if_pos (hot.symm.trans (bI_T c93))]; show (if 0 ≤ i ∧ i < 0 + 32 then _ else _) = _; rw [if_pos (by omega)]; rfl, k2⟩)
      refine x_iload_n C dX11_shares_44 4 rfl rfl ?_
      refine x_iconst (v := nI 2) C dX11_shares_45 (by decide +kernel) ?_
      refine x_icmp_eqN (tgt := 66) C (by omega) (by omega) dX11_shares_46 (by decide) (fun c46 => ?_) (fun c46 => ?_)
      · refine x_iconst (v := nI 1) C dX11_shares_66 (by decide +kernel) ?_
        refine x_goto (tgt := 71) C dX11_shares_67 (by decide) ?_
        refine x_sub (lv' := _) [0, 1, 2, 3, 4] rfl ?_
        exact J71 true (by unfold xEb; (first | (have hz0 := of_decide_eq_true (hz.symm.trans (bI_T c50)); rw [if_pos hz0]) | (have hz0 := of_decide_eq_false (hz.symm.trans (bI_F c50)); rw [if_neg hz0]) | skip); first | (rw [decide_eq_true (by omega)]; done) | (rw [decide_eq_false (by omega)]; done) | (split <;> rw [decide_eq_true (by omega)]))
      · refine x_iload_n C dX11_shares_49 1 rfl rfl ?_
        refine x_if_eq (tgt := 61) C dX11_shares_50 (by decide) (fun c50 => ?_) (fun c50 => ?_)
        · refine x_iload_n C dX11_shares_61 4 rfl rfl ?_
          refine x_iconst (v := nI 3) C dX11_shares_62 (by decide +kernel) ?_
          refine x_icmp_neN (tgt := 70) C (by omega) (by omega) dX11_shares_63 (by decide) (fun c63 => ?_) (fun c63 => ?_)
          · refine x_iconst (v := nI 0) C dX11_shares_70 (by decide +kernel) ?_
            refine x_sub (lv' := _) [0, 1, 2, 3, 4] rfl ?_
            exact J71 false (by unfold xEb; (first | (have hz0 := of_decide_eq_true (hz.symm.trans (bI_T c50)); rw [if_pos hz0]) | (have hz0 := of_decide_eq_false (hz.symm.trans (bI_F c50)); rw [if_neg hz0]) | skip); first | (rw [decide_eq_true (by omega)]; done) | (rw [decide_eq_false (by omega)]; done) | (split <;> rw [decide_eq_true (by omega)]))
          · refine x_iconst (v := nI 1) C dX11_shares_66 (by decide +kernel) ?_
            refine x_goto (tgt := 71) C dX11_shares_67 (by decide) ?_
            refine x_sub (lv' := _) [0, 1, 2, 3, 4] rfl ?_
            exact J71 true (by unfold xEb; (first | (have hz0 := of_decide_eq_true (hz.symm.trans (bI_T c50)); rw [if_pos hz0]) | (have hz0 := of_decide_eq_false (hz.symm.trans (bI_F c50)); rw [if_neg hz0]) | skip); first | (rw [decide_eq_true (by omega)]; done) | (rw [decide_eq_false (by omega)]; done) | (split <;> rw [decide_eq_true (by omega)]))
        · refine x_iload_n C dX11_shares_53 4 rfl rfl ?_
          refine x_iconst (v := nI 4) C dX11_shares_54 (by decide +kernel) ?_
          refine x_icmp_neN (tgt := 70) C (by omega) (by omega) dX11_shares_55 (by decide) (fun c55 => ?_) (fun c55 => ?_)
          · refine x_iconst (v := nI 0) C dX11_shares_70 (by decide +kernel) ?_
            refine x_sub (lv' := _) [0, 1, 2, 3, 4] rfl ?_
            exact J71 false (by unfold xEb; (first | (have hz0 := of_decide_eq_true (hz.symm.trans (bI_T c50)); rw [if_pos hz0]) | (have hz0 := of_decide_eq_false (hz.symm.trans (bI_F c50)); rw [if_neg hz0]) | skip); first | (rw [decide_eq_true (by omega)]; done) | (rw [decide_eq_false (by omega)]; done) | (split <;> rw [decide_eq_true (by omega)]))
          · refine x_goto (tgt := 66) C dX11_shares_58 (by decide) ?_
            refine x_iconst (v := nI 1) C dX11_shares_66 (by decide +kernel) ?_
            refine x_goto (tgt := 71) C dX11_shares_67 (by decide) ?_
            refine x_sub (lv' := _) [0, 1, 2, 3, 4] rfl ?_
            exact J71 true (by unfold xEb; (first | (have hz0 := of_decide_eq_true (hz.symm.trans (bI_T c50)); rw [if_pos hz0]) | (have hz0 := of_decide_eq_false (hz.symm.trans (bI_F c50)); rw [if_neg hz0]) | skip); first | (rw [decide_eq_true (by omega)]; done) | (rw [decide_eq_false (by omega)]; done) | (split <;> rw [decide_eq_true (by omega)]))
    refine x_iload_n C dX11_shares_15 3 rfl rfl ?_
    refine x_iconst (v := nI 2) C dX11_shares_16 (by decide +kernel) ?_
    refine x_icmp_eqN (tgt := 37) C (by omega) (by omega) dX11_shares_17 (by decide) (fun c17 => ?_) (fun c17 => ?_)
    · refine x_iconst (v := nI 1) C dX11_shares_37 (by decide +kernel) ?_
      refine x_goto (tgt := 42) C dX11_shares_38 (by decide) ?_
      refine x_sub (lv' := _) [0, 1, 2, 3] rfl ?_
      exact J42 true (by unfold oEb; (first | (have hz0 := of_decide_eq_true (hz.symm.trans (bI_T c21)); rw [if_pos hz0]) | (have hz0 := of_decide_eq_false (hz.symm.trans (bI_F c21)); rw [if_neg hz0]) | skip); first | (rw [decide_eq_true (by omega)]; done) | (rw [decide_eq_false (by omega)]; done) | (split <;> rw [decide_eq_true (by omega)]))
    · refine x_iload_n C dX11_shares_20 0 rfl rfl ?_
      refine x_if_eq (tgt := 32) C dX11_shares_21 (by decide) (fun c21 => ?_) (fun c21 => ?_)
      · refine x_iload_n C dX11_shares_32 3 rfl rfl ?_
        refine x_iconst (v := nI 4) C dX11_shares_33 (by decide +kernel) ?_
        refine x_icmp_neN (tgt := 41) C (by omega) (by omega) dX11_shares_34 (by decide) (fun c34 => ?_) (fun c34 => ?_)
        · refine x_iconst (v := nI 0) C dX11_shares_41 (by decide +kernel) ?_
          refine x_sub (lv' := _) [0, 1, 2, 3] rfl ?_
          exact J42 false (by unfold oEb; (first | (have hz0 := of_decide_eq_true (hz.symm.trans (bI_T c21)); rw [if_pos hz0]) | (have hz0 := of_decide_eq_false (hz.symm.trans (bI_F c21)); rw [if_neg hz0]) | skip); first | (rw [decide_eq_true (by omega)]; done) | (rw [decide_eq_false (by omega)]; done) | (split <;> rw [decide_eq_true (by omega)]))
        · refine x_iconst (v := nI 1) C dX11_shares_37 (by decide +kernel) ?_
          refine x_goto (tgt := 42) C dX11_shares_38 (by decide) ?_
          refine x_sub (lv' := _) [0, 1, 2, 3] rfl ?_
          exact J42 true (by unfold oEb; (first | (have hz0 := of_decide_eq_true (hz.symm.trans (bI_T c21)); rw [if_pos hz0]) | (have hz0 := of_decide_eq_false (hz.symm.trans (bI_F c21)); rw [if_neg hz0]) | skip); first | (rw [decide_eq_true (by omega)]; done) | (rw [decide_eq_false (by omega)]; done) | (split <;> rw [decide_eq_true (by omega)]))
      · refine x_iload_n C dX11_shares_24 3 rfl rfl ?_
        refine x_iconst (v := nI 3) C dX11_shares_25 (by decide +kernel) ?_
        refine x_icmp_neN (tgt := 41) C (by omega) (by omega) dX11_shares_26 (by decide) (fun c26 => ?_) (fun c26 => ?_)
        · refine x_iconst (v := nI 0) C dX11_shares_41 (by decide +kernel) ?_
          refine x_sub (lv' := _) [0, 1, 2, 3] rfl ?_
          exact J42 false (by unfold oEb; (first | (have hz0 := of_decide_eq_true (hz.symm.trans (bI_T c21)); rw [if_pos hz0]) | (have hz0 := of_decide_eq_false (hz.symm.trans (bI_F c21)); rw [if_neg hz0]) | skip); first | (rw [decide_eq_true (by omega)]; done) | (rw [decide_eq_false (by omega)]; done) | (split <;> rw [decide_eq_true (by omega)]))
        · refine x_goto (tgt := 37) C dX11_shares_29 (by decide) ?_
          refine x_iconst (v := nI 1) C dX11_shares_37 (by decide +kernel) ?_
          refine x_goto (tgt := 42) C dX11_shares_38 (by decide) ?_
          refine x_sub (lv' := _) [0, 1, 2, 3] rfl ?_
          exact J42 true (by unfold oEb; (first | (have hz0 := of_decide_eq_true (hz.symm.trans (bI_T c21)); rw [if_pos hz0]) | (have hz0 := of_decide_eq_false (hz.symm.trans (bI_F c21)); rw [if_neg hz0]) | skip); first | (rw [decide_eq_true (by omega)]; done) | (rw [decide_eq_false (by omega)]; done) | (split <;> rw [decide_eq_true (by omega)]))
  refine x_aload_n C dX11_shares_0 0 rfl rfl ?_
  refine x_getrN C fl_X11_180 mO.1 rfl (mO.2.2 35 _ rfl).1 dX11_shares_1 ?_
  refine x_iload_n C dX11_shares_4 1 rfl rfl ?_
  refine x_ialdN C (mO.2.2 35 _ rfl).2.1 (by omega) (by omega) dX11_shares_5 ?_
  refine x_eqi (y := nI ha) hha ?_
  refine x_if_neN (tgt := 13) C (by omega) dX11_shares_6 (by decide) (fun c6 => ?_) (fun c6 => ?_)
  · refine x_iconst (v := nI 0) C dX11_shares_13 (by decide +kernel) ?_
    refine x_sub (lv' := _) [0, 1, 2] rfl ?_
    exact J14 false (by first | (rw [decide_eq_true (by omega)]; done) | (rw [decide_eq_false (by omega)]; done))
  · refine x_iconst (v := nI 1) C dX11_shares_9 (by decide +kernel) ?_
    refine x_goto (tgt := 14) C dX11_shares_10 (by decide) ?_
    refine x_sub (lv' := _) [0, 1, 2] rfl ?_
    exact J14 true (by first | (rw [decide_eq_true (by omega)]; done) | (rw [decide_eq_false (by omega)]; done))

set_option maxHeartbeats 4000000 in
set_option maxRecDepth 100000 in
theorem ok_X11_isRight {l : Launch} {a0 : Nat} {D : va_G} {sa : Nat → Nat} {T : Nat → Option hKd} {I : Nat → Nat → Int32} {L : Nat → Nat → Int64} {R : Nat → Nat → Option Nat} {A : Nat → Nat} (mO : isM T R A a0) (f : Nat) (hf : f + 16 ≤ 400) : hM l a0 D sa yX11_isRight cX11_isRight 5 (some .boolean) { frames := 0, cells := 0, slots := 0, locals := 0 } [.ref (A 63), .ref (A 57), .int (nI f)] (T, I, L, R, A) (fun r G' => (∃ q : Bool, r = some (.int (bI q)) ∧ (q = true ↔ ∀ j, j < 16 → I 57 (f + j) = I 23 j)) ∧ G' = (T, I, L, R, A)) := by
  refine hM.of (by decide +kernel) (Nat.le_of_ble_eq_true rfl) ?_
  intro z hl h0 hD hS hN C E
  subst hl; subst h0; subst hD; subst hS
  have C : hC z RX11 cX11_isRight := C
  have hZ := E.2.2.2.1
  show hX z 0 0 (T, I, L, R, A) [(0, .ref (A 63)), (1, .ref (A 57)), (2, .int (nI f))] 0 []
  refine x_iconst (v := nI 1) C dX11_isRight_0 (by decide +kernel) ?_
  refine x_istore_n (lv' := [(3, .int (nI 1)), (0, .ref (A 63)), (1, .ref (A 57)), (2, .int (nI f))]) C dX11_isRight_1 rfl (Nat.lt_of_lt_of_eq (by decide) hN.symm) rfl ?_
  refine x_iconst (v := nI 0) C dX11_isRight_2 (by decide +kernel) ?_
  refine x_istore (lv' := [(4, .int (nI 0)), (3, .int (nI 1)), (0, .ref (A 63)), (1, .ref (A 57)), (2, .int (nI f))]) C dX11_isRight_3 (Nat.lt_of_lt_of_eq (by decide) hN.symm) rfl ?_
  have L5 : ∀ (fuel_ : Nat) (k : Nat) (q : Bool), 16 - k < fuel_ → (k ≤ 16) → (q = true ↔ ∀ j, j < k → I 57 (f + j) = I 23 j) → hX z 0 0 (T, I, L, R, A) [(4, .int (nI k)), (3, .int (bI q)), (0, .ref (A 63)), (1, .ref (A 57)), (2, .int (nI f))] 5 [] := by
    intro fuel_
    induction fuel_ with
    | zero => intro k q hmz; exact absurd hmz (Nat.not_lt_zero _)
    | succ fuel_ ih5 =>
      intro k q hmz hk hq
      refine x_iload C dX11_isRight_5 0 rfl ?_
      refine x_bipush (v := nI 16) C dX11_isRight_7 (by decide +kernel) ?_
      refine x_icmp_geN (tgt := 44) C (by omega) (by omega) dX11_isRight_9 (by decide) (fun c9 => ?_) (fun c9 => ?_)
      · refine x_iload_n C dX11_isRight_44 1 rfl rfl ?_
        exact x_zret C E (bI_01 _) (Nat.le_of_ble_eq_true rfl) (Nat.le_of_ble_eq_true rfl) dX11_isRight_45 (⟨⟨q, rfl, by rw [hq, show k = 16 by omega]⟩, rfl⟩)
      · have J37 : ∀ (v : Bool), (v = true ↔ (q = true ∧ I 57 (f + k) = I 23 k)) → hX z 0 0 (T, I, L, R, A) [(4, .int (nI k)), (3, .int (bI q)), (0, .ref (A 63)), (1, .ref (A 57)), (2, .int (nI f))] 37 [.int (bI v)] := by
          intro v hv
          refine x_istore_n (lv' := [(3, .int (bI v)), (4, .int (nI k)), (0, .ref (A 63)), (1, .ref (A 57)), (2, .int (nI f))]) C dX11_isRight_37 rfl (Nat.lt_of_lt_of_eq (by decide) hN.symm) rfl ?_
          refine x_iinc (v := nI (k + 1)) (lv' := [(4, .int (nI (k + 1))), (3, .int (bI v)), (0, .ref (A 63)), (1, .ref (A 57)), (2, .int (nI f))]) C dX11_isRight_38 1 rfl (nI_inc 1) (Nat.lt_of_lt_of_eq (by decide) hN.symm) rfl ?_
          refine x_goto (tgt := 5) C dX11_isRight_41 (by decide) ?_
          refine x_sub (lv' := _) [0, 1, 2, 3, 4] rfl ?_
          exact ih5 (k + 1) v (by omega) (by omega) (by rw [hv, hq]; exact ops_s)
        refine x_iload_n C dX11_isRight_12 1 rfl rfl ?_
        refine x_if_eq (tgt := 36) C dX11_isRight_13 (by decide) (fun c13 => ?_) (fun c13 => ?_)
        · refine x_iconst (v := nI 0) C dX11_isRight_36 (by decide +kernel) ?_
          refine x_sub (lv' := _) [0, 1, 2, 3, 4] rfl ?_
          exact J37 false (by simp only [Bool.false_eq_true, false_iff]; rintro ⟨x1, x2⟩; first | exact c29 x2 | (rw [bI_F c13] at x1; cases x1))
        · refine x_aload_n C dX11_isRight_16 3 rfl rfl ?_
          refine x_iload_n C dX11_isRight_17 4 rfl rfl ?_
          refine x_iload C dX11_isRight_18 0 rfl ?_
          refine x_iaddN C dX11_isRight_20 ?_
          refine x_ialdN C (mO.2.2 57 _ rfl).2.1 (by omega) (by omega) dX11_isRight_21 ?_
          refine x_aload_n C dX11_isRight_22 2 rfl rfl ?_
          refine x_getrN C fl_X11_149 mO.1 rfl (mO.2.2 23 _ rfl).1 dX11_isRight_23 ?_
          refine x_iload C dX11_isRight_26 0 rfl ?_
          refine x_ialdN C (mO.2.2 23 _ rfl).2.1 (by omega) (by omega) dX11_isRight_28 ?_
          refine x_icmp_ne (tgt := 36) C dX11_isRight_29 (by decide) (fun c29 => ?_) (fun c29 => ?_)
          · refine x_iconst (v := nI 0) C dX11_isRight_36 (by decide +kernel) ?_
            refine x_sub (lv' := _) [0, 1, 2, 3, 4] rfl ?_
            exact J37 false (by simp only [Bool.false_eq_true, false_iff]; rintro ⟨x1, x2⟩; first | exact c29 x2 | (rw [bI_F c13] at x1; cases x1))
          · refine x_iconst (v := nI 1) C dX11_isRight_32 (by decide +kernel) ?_
            refine x_goto (tgt := 37) C dX11_isRight_33 (by decide) ?_
            refine x_sub (lv' := _) [0, 1, 2, 3, 4] rfl ?_
            exact J37 true ⟨fun _ => ⟨bI_T c13, c29⟩, fun _ => rfl⟩
  refine x_sub (lv' := _) [0, 1, 2, 3, 4] rfl ?_
  exact L5 _ 0 true (Nat.lt_succ_self _) (by omega) ⟨fun _ j hj => absurd hj (Nat.not_lt_zero j), fun _ => rfl⟩

