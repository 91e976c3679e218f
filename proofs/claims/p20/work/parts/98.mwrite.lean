/-! ===== the model: write ===== -/
def mFw (E : List Nat) (s : Nat) (I J : Nat → Nat → Int32) : Prop := ∃ K, mF 5 s I K ∧ (∀ q, q ≠ 63 → J q = K q) ∧ ∀ j, j ∉ E → J 63 j = K 63 j
theorem mdE.u63 {σ : sgT} {I J : Nat → Nat → Int32} {s : Nat} {dn : Bool} (h : mdE σ I s dn) (e : ∀ q, q ≠ 63 → J q = I q) : mdE σ J s dn := h.sm (fun q _ h2 => e q (by omega))
set_option maxHeartbeats 4000000 in
set_option maxRecDepth 100000 in
theorem no_X11_write {l : Launch} {a0 : Nat} {D : va_G} {sa : Nat → Nat} {T : Nat → Option hKd} {I : Nat → Nat → Int32} {L : Nat → Nat → Int64} {R : Nat → Nat → Option Nat} {A : Nat → Nat} (ns : Nat) (hns : I 63 33 = nI ns) (hn4 : ns ≤ 4) (mO : isM T R A a0) (hc : shC I) (h13 : h13Z I) (s : Nat) (hs : s < ns) (p : Nat) (hp8 : p < 8) (kn : Nat → Bool) (ms : Nat) (sz : Nat → Nat) (tk : Nat → Nat → Nat) (hp : mdP I p kn ms sz tk) (hp34 : I 34 s = nI p) (σ : sgT) (nx : Nat) (hE : mdE σ I s (decide (ms ≤ nx))) (hb : bS σ) (hnx : σ 7 13 = nI nx) (hn6 : nx ≤ ms) (ha : Nat) (hha : I 35 s = nI ha) (ha2 : ha < 2) (hnm : nx < ms) (hnh : nx % 2 ≠ ha) : hM l a0 D sa yX11_write cX11_write 5 (some .int) { frames := 2, cells := 0, slots := 0, locals := 43 } [.ref (A 63), .int (nI s)] (T, I, L, R, A) (fun r G' => r = some (.int (-3)) ∧ G' = (T, I, L, R, A)) := by
  refine hM.of (by decide +kernel) (Nat.le_of_ble_eq_true rfl) ?_
  intro z hl h0 hD hS hN C E
  subst hl; subst h0; subst hD; subst hS
  have C : hC z RX11 cX11_write := C
  have hZ := E.2.2.2.1
  show hX z 0 0 (T, I, L, R, A) [(0, .ref (A 63)), (1, .int (nI s))] 0 []
  have hs5 : s < 5 := by omega
  have hm6 := hp.2.2.2.2.1
  refine x_aload_n C dX11_write_0 0 rfl rfl ?_
  refine x_iload_n C dX11_write_1 1 rfl rfl ?_
  refine x_callV C (ok_X11_isSide mO ns hns hn4 s hs) mv_X11_isSide ml_X11_415 mO.1 rfl rfl rfl (Nat.le_of_ble_eq_true rfl) (hrm (rm := { frames := 0, cells := 0, slots := 0, locals := 0 }) hZ ⟨Nat.le_of_ble_eq_true rfl, Nat.le_of_ble_eq_true rfl⟩) (hcs hZ ⟨Nat.le_of_ble_eq_true rfl, Nat.le_of_ble_eq_true rfl⟩) dX11_write_2 (fun v G' hp => ?_)
  obtain ⟨rfl, rfl⟩ := hp
  show hX z 0 0 (T, I, L, R, A) [(0, .ref (A 63)), (1, .int (nI s))] 5 [.int (nI 1)]
  refine x_if_neN (tgt := 11) C (by omega) dX11_write_5 (by decide) (fun c5 => ?_) (fun c5 => absurd c5 (by omega))
  refine x_aload_n C dX11_write_11 0 rfl rfl ?_
  refine x_getrN C fl_X11_198 mO.1 rfl (mO.2.2 41 _ rfl).1 dX11_write_12 ?_
  refine x_iload_n C dX11_write_15 1 rfl rfl ?_
  refine x_zaldN C (mO.2.2 41 _ rfl).2.1 (by omega) (by omega) dX11_write_16 ?_
  refine x_eqi (y := nI 0) (hE.2.2.2.2.2.2.2.2.2.trans (by rw [decide_eq_false (by omega)]; rfl)) ?_
  refine x_if_neN (tgt := 40) C (by omega) dX11_write_17 (by decide) (fun c17 => absurd c17 (by omega)) (fun c17 => ?_)
  refine x_aload_n C dX11_write_20 0 rfl rfl ?_
  refine x_getrN C fl_X11_195 mO.1 rfl (mO.2.2 40 _ rfl).1 dX11_write_21 ?_
  refine x_iload_n C dX11_write_24 1 rfl rfl ?_
  refine x_ialdN C (mO.2.2 40 _ rfl).2.1 (by omega) (by omega) dX11_write_25 ?_
  refine x_eqi (y := nI nx) (hE.2.2.2.2.2.2.2.1.2.2.2.2.2.trans hnx) ?_
  refine x_iconst (v := nI 2) C dX11_write_26 (by decide +kernel) ?_
  refine x_iremN C (by omega) (by omega) (by omega) dX11_write_27 ?_
  refine x_aload_n C dX11_write_28 0 rfl rfl ?_
  refine x_getrN C fl_X11_180 mO.1 rfl (mO.2.2 35 _ rfl).1 dX11_write_29 ?_
  refine x_iload_n C dX11_write_32 1 rfl rfl ?_
  refine x_ialdN C (mO.2.2 35 _ rfl).2.1 (by omega) (by omega) dX11_write_33 ?_
  refine x_eqi (y := nI ha) hha ?_
  refine x_icmp_eqN (tgt := 40) C (by omega) (by omega) dX11_write_34 (by decide) (fun c34 => absurd c34 (by omega)) (fun c34 => ?_)
  refine x_bipush (v := (-3)) C dX11_write_37 (by decide +kernel) ?_
  exact x_iret C E (Nat.le_of_ble_eq_true rfl) (Nat.le_of_ble_eq_true rfl) dX11_write_39 (⟨rfl, rfl⟩)

set_option maxHeartbeats 4000000 in
set_option maxRecDepth 100000 in
theorem dn_X11_write {l : Launch} {a0 : Nat} {D : va_G} {sa : Nat → Nat} {T : Nat → Option hKd} {I : Nat → Nat → Int32} {L : Nat → Nat → Int64} {R : Nat → Nat → Option Nat} {A : Nat → Nat} (ns : Nat) (hns : I 63 33 = nI ns) (hn4 : ns ≤ 4) (mO : isM T R A a0) (hc : shC I) (h13 : h13Z I) (s : Nat) (hs : s < ns) (p : Nat) (hp8 : p < 8) (kn : Nat → Bool) (ms : Nat) (sz : Nat → Nat) (tk : Nat → Nat → Nat) (hp : mdP I p kn ms sz tk) (hp34 : I 34 s = nI p) (σ : sgT) (nx : Nat) (hE : mdE σ I s (decide (ms ≤ nx))) (hb : bS σ) (hnx : σ 7 13 = nI nx) (hn6 : nx ≤ ms) (ha : Nat) (hha : I 35 s = nI ha) (ha2 : ha < 2) (tn : Nat) (htn : I 63 56 = nI tn) (ht64 : tn ≤ 64) (tp : Nat → Int32) (htp : ∀ j, j < tn → I 55 j = tp j) (htb : ∀ j, j < tn → byt (tp j) < 256) (hdn : ms ≤ nx) : hM l a0 D sa yX11_write cX11_write 5 (some .int) { frames := 4, cells := 0, slots := 0, locals := 102 } [.ref (A 63), .int (nI s)] (T, I, L, R, A) (fun r G' => r = some (.int (nI (tn + 16))) ∧ ∃ I', G' = (T, I', L, R, A) ∧ mdE (sFl σ 10 (σ 7 10 + 1)) I' s (decide (ms ≤ nx)) ∧ (∀ j, j < tn + 16 → I' 57 j = dnF σ tp tn j) ∧ I' 63 58 = nI (tn + 16) ∧ I' 63 56 = nI 0 ∧ mFw [56, 58] s I I') := by
  refine hM.of (by decide +kernel) (Nat.le_of_ble_eq_true rfl) ?_
  intro z hl h0 hD hS hN C E
  subst hl; subst h0; subst hD; subst hS
  have C : hC z RX11 cX11_write := C
  have hZ := E.2.2.2.1
  show hX z 0 0 (T, I, L, R, A) [(0, .ref (A 63)), (1, .int (nI s))] 0 []
  have hs5 : s < 5 := by omega
  have hm6 := hp.2.2.2.2.1
  refine x_aload_n C dX11_write_0 0 rfl rfl ?_
  refine x_iload_n C dX11_write_1 1 rfl rfl ?_
  refine x_callV C (ok_X11_isSide mO ns hns hn4 s hs) mv_X11_isSide ml_X11_415 mO.1 rfl rfl rfl (Nat.le_of_ble_eq_true rfl) (hrm (rm := { frames := 0, cells := 0, slots := 0, locals := 0 }) hZ ⟨Nat.le_of_ble_eq_true rfl, Nat.le_of_ble_eq_true rfl⟩) (hcs hZ ⟨Nat.le_of_ble_eq_true rfl, Nat.le_of_ble_eq_true rfl⟩) dX11_write_2 (fun v G' hp => ?_)
  obtain ⟨rfl, rfl⟩ := hp
  show hX z 0 0 (T, I, L, R, A) [(0, .ref (A 63)), (1, .int (nI s))] 5 [.int (nI 1)]
  refine x_if_neN (tgt := 11) C (by omega) dX11_write_5 (by decide) (fun c5 => ?_) (fun c5 => absurd c5 (by omega))
  refine x_aload_n C dX11_write_11 0 rfl rfl ?_
  refine x_getrN C fl_X11_198 mO.1 rfl (mO.2.2 41 _ rfl).1 dX11_write_12 ?_
  refine x_iload_n C dX11_write_15 1 rfl rfl ?_
  refine x_zaldN C (mO.2.2 41 _ rfl).2.1 (by omega) (by omega) dX11_write_16 ?_
  refine x_eqi (y := nI 1) (hE.2.2.2.2.2.2.2.2.2.trans (by rw [decide_eq_true hdn]; rfl)) ?_
  refine x_if_neN (tgt := 40) C (by omega) dX11_write_17 (by decide) (fun c17 => ?_) (fun c17 => absurd c17 (by omega))
  refine x_iconst (v := nI 0) C dX11_write_40 (by decide +kernel) ?_
  refine x_istore_n (lv' := [(2, .int (nI 0)), (0, .ref (A 63)), (1, .int (nI s))]) C dX11_write_41 rfl (Nat.lt_of_lt_of_eq (by decide) hN.symm) rfl ?_
  refine x_aload_n C dX11_write_42 1 rfl rfl ?_
  refine x_getrN C fl_X11_198 mO.1 rfl (mO.2.2 41 _ rfl).1 dX11_write_43 ?_
  refine x_iload_n C dX11_write_46 2 rfl rfl ?_
  refine x_zaldN C (mO.2.2 41 _ rfl).2.1 (by omega) (by omega) dX11_write_47 ?_
  refine x_eqi (y := nI 1) (hE.2.2.2.2.2.2.2.2.2.trans (by rw [decide_eq_true hdn]; rfl)) ?_
  refine x_if_eqN (tgt := 167) C (by omega) dX11_write_48 (by decide) (fun c48 => absurd c48 (by omega)) (fun c48 => ?_)
  refine x_aload_n C dX11_write_51 1 rfl rfl ?_
  refine x_getrN C fl_X11_240 mO.1 rfl (mO.2.2 55 _ rfl).1 dX11_write_52 ?_
  refine x_iconst (v := nI 0) C dX11_write_55 (by decide +kernel) ?_
  refine x_aload_n C dX11_write_56 1 rfl rfl ?_
  refine x_getrN C fl_X11_243 mO.1 rfl (mO.2.2 57 _ rfl).1 dX11_write_57 ?_
  refine x_iconst (v := nI 0) C dX11_write_60 (by decide +kernel) ?_
  refine x_aload_n C dX11_write_61 1 rfl rfl ?_
  refine x_getiN C fl_X11_418 mO.1 rfl dX11_write_62 ?_
  refine x_eqi (y := nI tn) htn ?_
  refine x_callS C (ok_X11_copy 55 57 (0) (0) (tn) 64 400 (mO.2.2 55 _ rfl).2.1 (mO.2.2 57 _ rfl).2.1 (mO.2.2 57 _ rfl).2.2 (by omega) (by omega) (by decide) (by decide) (fun e => absurd e (by decide))) ms_X11_copy ml_X11_270 rfl rfl (Nat.le_of_ble_eq_true rfl) (hrm (rm := { frames := 0, cells := 0, slots := 0, locals := 0 }) hZ ⟨Nat.le_of_ble_eq_true rfl, Nat.le_of_ble_eq_true rfl⟩) (hcs hZ ⟨Nat.le_of_ble_eq_true rfl, Nat.le_of_ble_eq_true rfl⟩) dX11_write_65 (fun v G' hp => ?_)
  obtain ⟨rfl, rfl⟩ := hp
  generalize eI1 : va_up I 57 (fun j => if 0 ≤ j ∧ j < 0 + tn then I 55 (0 + (j - 0)) else I 57 j) = I1
  have eI1 := eI1.symm
  show hX z 0 0 (T, I1, L, R, A) [(2, .int (nI 0)), (0, .ref (A 63)), (1, .int (nI s))] 68 []
  refine x_aload_n C dX11_write_68 1 rfl rfl ?_
  refine x_aload_n C dX11_write_69 1 rfl rfl ?_
  refine x_getrN C fl_X11_222 mO.1 rfl (mO.2.2 49 _ rfl).1 dX11_write_70 ?_
  refine x_bipush (v := nI 32) C dX11_write_73 (by decide +kernel) ?_
  refine x_iload_n C dX11_write_75 2 rfl rfl ?_
  refine x_imulN C dX11_write_76 ?_
  refine x_aload_n C dX11_write_77 1 rfl rfl ?_
  refine x_getrN C fl_X11_204 mO.1 rfl (mO.2.2 43 _ rfl).1 dX11_write_78 ?_
  refine x_iload_n C dX11_write_81 2 rfl rfl ?_
  refine x_ialdN C (mO.2.2 43 _ rfl).2.1 (by omega) (by omega) dX11_write_82 ?_
  refine x_eqi (y := σ 7 10) (by rw [eI1, va_up_other _ _ (by decide)]; exact hE.2.2.2.2.2.2.2.1.2.2.2.1) ?_
  refine x_aload_n C dX11_write_83 1 rfl rfl ?_
  refine x_getrN C fl_X11_243 mO.1 rfl (mO.2.2 57 _ rfl).1 dX11_write_84 ?_
  refine x_iconst (v := nI 0) C dX11_write_87 (by decide +kernel) ?_
  refine x_aload_n C dX11_write_88 1 rfl rfl ?_
  refine x_getiN C fl_X11_418 mO.1 rfl dX11_write_89 ?_
  refine x_eqi (y := nI tn) (by rw [eI1, va_up_other _ _ (by decide)]; exact htn) ?_
  refine x_callV C (ok_X11_ciphers mO 49 160 (32 * s) (σ 7 10) 57 400 0 tn (mO.2.2 49 _ rfl).2.1 (by decide) (by omega) (by decide) (mO.2.2 57 _ rfl).2.1 (by decide) (mO.2.2 57 _ rfl).2.2 (by omega) (by decide)) mv_X11_ciphers ml_X11_421 mO.1 rfl rfl rfl (Nat.le_of_ble_eq_true rfl) (hrm (rm := { frames := 0, cells := 0, slots := 0, locals := 0 }) hZ ⟨Nat.le_of_ble_eq_true rfl, Nat.le_of_ble_eq_true rfl⟩) (hcs hZ ⟨Nat.le_of_ble_eq_true rfl, Nat.le_of_ble_eq_true rfl⟩) dX11_write_92 (fun v G' hp => ?_)
  obtain ⟨rfl, J1, rfl, c1, c2⟩ := hp
  have x1 : ∀ j, j < tn → J1 57 j = tp j ^^^ strm (σ 2) (σ 7 10) j := fun j hj => by rw [c1]; show (if 0 ≤ j ∧ j < 0 + tn then I1 57 (0 + (j - 0)) ^^^ strm _ _ (j - 0) else _) = _; rw [if_pos (by omega), Nat.sub_zero, Nat.zero_add, strm_congr (fun i hi => (show I1 49 (32 * s + i) = σ 2 i by rw [eI1, va_up_other _ _ (by decide)]; exact hE.2.2.1 i hi)), eI1, va_up_same]; show (if 0 ≤ j ∧ j < 0 + tn then I 55 (0 + (j - 0)) else _) ^^^ _ = _; rw [if_pos (by omega), Nat.sub_zero, Nat.zero_add, htp j hj]
  show hX z 0 0 (T, J1, L, R, A) [(2, .int (nI 0)), (0, .ref (A 63)), (1, .int (nI s))] 95 []
  refine x_aload_n C dX11_write_95 1 rfl rfl ?_
  refine x_aload_n C dX11_write_96 1 rfl rfl ?_
  refine x_getrN C fl_X11_222 mO.1 rfl (mO.2.2 49 _ rfl).1 dX11_write_97 ?_
  refine x_bipush (v := nI 32) C dX11_write_100 (by decide +kernel) ?_
  refine x_iload_n C dX11_write_102 2 rfl rfl ?_
  refine x_imulN C dX11_write_103 ?_
  refine x_aload_n C dX11_write_104 1 rfl rfl ?_
  refine x_getrN C fl_X11_204 mO.1 rfl (mO.2.2 43 _ rfl).1 dX11_write_105 ?_
  refine x_iload_n C dX11_write_108 2 rfl rfl ?_
  refine x_ialdN C (mO.2.2 43 _ rfl).2.1 (by omega) (by omega) dX11_write_109 ?_
  refine x_eqi (y := σ 7 10) (by rw [c2 43 (by decide), eI1, va_up_other _ _ (by decide)]; exact hE.2.2.2.2.2.2.2.1.2.2.2.1) ?_
  refine x_aload_n C dX11_write_110 1 rfl rfl ?_
  refine x_getrN C fl_X11_219 mO.1 rfl (mO.2.2 48 _ rfl).1 dX11_write_111 ?_
  refine x_iconst (v := nI 0) C dX11_write_114 (by decide +kernel) ?_
  refine x_iconst (v := nI 0) C dX11_write_115 (by decide +kernel) ?_
  refine x_aload_n C dX11_write_116 1 rfl rfl ?_
  refine x_getrN C fl_X11_243 mO.1 rfl (mO.2.2 57 _ rfl).1 dX11_write_117 ?_
  refine x_iconst (v := nI 0) C dX11_write_120 (by decide +kernel) ?_
  refine x_aload_n C dX11_write_121 1 rfl rfl ?_
  refine x_getiN C fl_X11_418 mO.1 rfl dX11_write_122 ?_
  refine x_eqi (y := nI tn) (by rw [c2 63 (by decide), eI1, va_up_other _ _ (by decide)]; exact htn) ?_
  refine x_callV C (ok_X11_tagOf mO 49 160 (32 * s) (σ 7 10) 48 160 0 0 57 400 0 tn (mO.2.2 49 _ rfl).2.1 (by decide) (by omega) (by decide) (mO.2.2 48 _ rfl).2.1 (by decide) (by omega) (by decide) (mO.2.2 57 _ rfl).2.1 (by decide) (by omega) (by omega) (by decide) (by decide) (fun j hj => absurd hj (Nat.not_lt_zero j)) (fun j hj => by rw [Nat.zero_add, x1 j hj]; exact byt_xor (htb j hj) (byt_strm _ _ _))) mv_X11_tagOf ml_X11_425 mO.1 rfl rfl rfl (Nat.le_of_ble_eq_true rfl) (hrm (rm := { frames := 0, cells := 0, slots := 0, locals := 0 }) hZ ⟨Nat.le_of_ble_eq_true rfl, Nat.le_of_ble_eq_true rfl⟩) (hcs hZ ⟨Nat.le_of_ble_eq_true rfl, Nat.le_of_ble_eq_true rfl⟩) dX11_write_125 (fun v G' hp => ?_)
  obtain ⟨rfl, J2, rfl, t1, t2⟩ := hp
  show hX z 0 0 (T, J2, L, R, A) [(2, .int (nI 0)), (0, .ref (A 63)), (1, .int (nI s))] 128 []
  refine x_aload_n C dX11_write_128 1 rfl rfl ?_
  refine x_getrN C fl_X11_149 mO.1 rfl (mO.2.2 23 _ rfl).1 dX11_write_129 ?_
  refine x_iconst (v := nI 0) C dX11_write_132 (by decide +kernel) ?_
  refine x_aload_n C dX11_write_133 1 rfl rfl ?_
  refine x_getrN C fl_X11_243 mO.1 rfl (mO.2.2 57 _ rfl).1 dX11_write_134 ?_
  refine x_aload_n C dX11_write_137 1 rfl rfl ?_
  refine x_getiN C fl_X11_418 mO.1 rfl dX11_write_138 ?_
  refine x_eqi (y := nI tn) (by rw [t2 63 (by decide), c2 63 (by decide), eI1, va_up_other _ _ (by decide)]; exact htn) ?_
  refine x_bipush (v := nI 16) C dX11_write_141 (by decide +kernel) ?_
  refine x_callS C (ok_X11_copy 23 57 (0) (tn) (16) 16 400 (mO.2.2 23 _ rfl).2.1 (mO.2.2 57 _ rfl).2.1 (mO.2.2 57 _ rfl).2.2 (by omega) (by omega) (by decide) (by decide) (fun e => absurd e (by decide))) ms_X11_copy ml_X11_270 rfl rfl (Nat.le_of_ble_eq_true rfl) (hrm (rm := { frames := 0, cells := 0, slots := 0, locals := 0 }) hZ ⟨Nat.le_of_ble_eq_true rfl, Nat.le_of_ble_eq_true rfl⟩) (hcs hZ ⟨Nat.le_of_ble_eq_true rfl, Nat.le_of_ble_eq_true rfl⟩) dX11_write_143 (fun v G' hp => ?_)
  obtain ⟨rfl, rfl⟩ := hp
  generalize eI2 : va_up J2 57 (fun j => if tn ≤ j ∧ j < tn + 16 then J2 23 (0 + (j - tn)) else J2 57 j) = I2
  have eI2 := eI2.symm
  show hX z 0 0 (T, I2, L, R, A) [(2, .int (nI 0)), (0, .ref (A 63)), (1, .int (nI s))] 146 []
  refine x_aload_n C dX11_write_146 1 rfl rfl ?_
  refine x_getrN C fl_X11_204 mO.1 rfl (mO.2.2 43 _ rfl).1 dX11_write_147 ?_
  refine x_iload_n C dX11_write_150 2 rfl rfl ?_
  refine x_dup2 C dX11_write_151 rfl rfl ?_
  refine x_ialdN C (mO.2.2 43 _ rfl).2.1 (by omega) (by omega) dX11_write_152 ?_
  refine x_eqi (y := σ 7 10) (by rw [eI2, va_up_other _ _ (by decide), t2 43 (by decide), c2 43 (by decide), eI1, va_up_other _ _ (by decide)]; exact hE.2.2.2.2.2.2.2.1.2.2.2.1) ?_
  refine x_iconst (v := nI 1) C dX11_write_153 (by decide +kernel) ?_
  refine x_iadd C dX11_write_154 ?_
  refine x_iastN C (mO.2.2 43 _ rfl).2.1 (mO.2.2 43 _ rfl).2.2 (by omega) (by omega) dX11_write_155 (fun I3 eI3 => ?_)
  refine x_aload_n C dX11_write_156 1 rfl rfl ?_
  refine x_getiN C fl_X11_418 mO.1 rfl dX11_write_157 ?_
  refine x_eqi (y := nI tn) (by rw [eI3, va_up_other _ _ (by decide), eI2, va_up_other _ _ (by decide), t2 63 (by decide), c2 63 (by decide), eI1, va_up_other _ _ (by decide)]; exact htn) ?_
  refine x_bipush (v := nI 16) C dX11_write_160 (by decide +kernel) ?_
  refine x_iaddN C dX11_write_162 ?_
  refine x_istore_n (lv' := [(2, .int (nI (tn + 16))), (0, .ref (A 63)), (1, .int (nI s))]) C dX11_write_163 rfl (Nat.lt_of_lt_of_eq (by decide) hN.symm) rfl ?_
  refine x_goto (tgt := 261) C dX11_write_164 (by decide) ?_
  refine x_aload_n C dX11_write_261 1 rfl rfl ?_
  refine x_iload_n C dX11_write_262 0 rfl rfl ?_
  refine x_putiN C fl_X11_450 mO.1 mO.2.1 rfl dX11_write_263 (fun I4 eI4 => ?_)
  refine x_aload_n C dX11_write_266 1 rfl rfl ?_
  refine x_iconst (v := nI 0) C dX11_write_267 (by decide +kernel) ?_
  refine x_putiN C fl_X11_418 mO.1 mO.2.1 rfl dX11_write_268 (fun I5 eI5 => ?_)
  refine x_iload_n C dX11_write_271 0 rfl rfl ?_
  exact x_iret C E (Nat.le_of_ble_eq_true rfl) (Nat.le_of_ble_eq_true rfl) dX11_write_272 (by
      have F4 : fmS [14, 15, 16, 17, 18, 19, 20, 21, 22, 23, 43, 57] I I3 := by
        rw [eI3, eI2]
        refine fmS.u (fmS.u ?_ (by decide) (by decide)) (by decide) (by decide)
        refine fmS.t (J := I1) (by rw [eI1]; exact (fmS.of fx.rf (by decide)).u (by decide) (by decide)) (((fmS.of c2 (by decide)).w (U := [14, 15, 16, 17, 18, 19, 20, 21, 22, 23, 43, 57]) (by simp)).t (fmS.of t2 (by decide)) (by simp)) (by simp)
      have g43 : I3 43 = upd (I 43) s (σ 7 10 + nI 1) := by rw [eI3, va_up_same, eI2, va_up_other _ _ (by decide), t2 43 (by decide), c2 43 (by decide), eI1, va_up_other _ _ (by decide)]
      have o57 : I5 57 = I2 57 := by rw [eI5, va_up_other _ _ (by decide), eI4, va_up_other _ _ (by decide), eI3, va_up_other _ _ (by decide)]
      have oq : ∀ q, q ≠ 63 → I5 q = I3 q := fun q hq => by rw [eI5, va_up_other _ _ hq, eI4, va_up_other _ _ hq]
      refine ⟨rfl, I5, rfl, ?_, ?_, ?_, ?_, I3, ?_, oq, ?_⟩
      · refine mdE.u63 (I := I3) ?_ oq
        exact hE.n1 (by rw [g43]; simp [upd, sFl, sgR]; rfl) (fun q h1 h2 => by intros; exact F4.o q (by simp; omega) (by omega))
      · intro j hj
        rw [o57, eI2, va_up_same]
        show (if tn ≤ j ∧ j < tn + 16 then J2 23 (0 + (j - tn)) else J2 57 j) = _
        unfold dnF encF
        by_cases h : j < tn
        · rw [if_neg (by omega), if_pos h, t2 57 (by decide), x1 j h]
        · rw [if_pos (by omega), if_neg h, Nat.zero_add, t1 (j - tn) (by omega)]
          exact congrArg nI <| tagO_cg (fun i hi => by rw [c2 49 (by decide), eI1, va_up_other _ _ (by decide)]; exact hE.2.2.1 i hi) (fun j hj => absurd hj (Nat.not_lt_zero j)) (fun i hi => by show byt (J1 57 (0 + i)) = byt _; rw [Nat.zero_add, x1 i hi]) _
      · rw [eI5, va_up_same]; simp [upd]; rw [eI4, va_up_same]; simp [upd]
      · rw [eI5, va_up_same]; simp [upd]
      · refine mF.fm F4 (by decide) (h13Z.o (F4.o 13 (by decide) (by decide))) (fun q h1 h2 h3 => ?_)
        simp at h1
        obtain rfl : q = 43 := by omega
        exact sdO.fld g43 (by decide)
      · intro j hj
        simp at hj
        rw [eI5, va_up_same]; unfold upd; rw [if_neg hj.1, eI4, va_up_same]; unfold upd; rw [if_neg hj.2])

set_option maxHeartbeats 4000000 in
set_option maxRecDepth 100000 in
theorem ok_X11_write {l : Launch} {a0 : Nat} {D : va_G} {sa : Nat → Nat} {T : Nat → Option hKd} {I : Nat → Nat → Int32} {L : Nat → Nat → Int64} {R : Nat → Nat → Option Nat} {A : Nat → Nat} (ns : Nat) (hns : I 63 33 = nI ns) (hn4 : ns ≤ 4) (mO : isM T R A a0) (hc : shC I) (h13 : h13Z I) (s : Nat) (hs : s < ns) (p : Nat) (hp8 : p < 8) (kn : Nat → Bool) (ms : Nat) (sz : Nat → Nat) (tk : Nat → Nat → Nat) (hp : mdP I p kn ms sz tk) (hp34 : I 34 s = nI p) (σ : sgT) (nx : Nat) (hE : mdE σ I s (decide (ms ≤ nx))) (hb : bS σ) (hnx : σ 7 13 = nI nx) (hn6 : nx ≤ ms) (ha : Nat) (hha : I 35 s = nI ha) (ha2 : ha < 2) (sd : Int32) (hsd : I 38 s = sd) (sec pub : Nat → Int32) (hsec : mR I 51 s sec) (tn : Nat) (htn : I 63 56 = nI tn) (ht64 : tn ≤ 64) (tp : Nat → Int32) (htp : ∀ j, j < tn → I 55 j = tp j) (htb : ∀ j, j < tn → byt (tp j) < 256) (hln : lnK (tk nx) (sz nx) ≤ 80) (hpub : ∀ k, k < sz nx → tk nx k = 1 → ∀ j, j < 32 → pub j = pubF sec j) (hpb : ∀ j, j < 32 → byt (pub j) < 256) (hx : ∀ k, k < sz nx → 2 ≤ tk nx k → xEb (tk nx k) ha = false → σ 7 9 = nI 1) (hnm : nx < ms) (hnh : nx % 2 = ha) : hM l a0 D sa yX11_write cX11_write 5 (some .int) { frames := 7, cells := 0, slots := 0, locals := 175 } [.ref (A 63), .int (nI s)] (T, I, L, R, A) (fun r G' => r = some (.int (nI (sdM sd sec pub ha ms nx (tk nx) (sz nx) tp tn σ).2.2)) ∧ ∃ I' L', G' = (T, I', L', R, A) ∧ mdE (sdM sd sec pub ha ms nx (tk nx) (sz nx) tp tn σ).1 I' s (decide (ms ≤ nx + 1)) ∧ (∀ j, j < (sdM sd sec pub ha ms nx (tk nx) (sz nx) tp tn σ).2.2 → I' 57 j = (sdM sd sec pub ha ms nx (tk nx) (sz nx) tp tn σ).2.1 j) ∧ I' 63 58 = nI (sdM sd sec pub ha ms nx (tk nx) (sz nx) tp tn σ).2.2 ∧ I' 63 56 = nI 0 ∧ mFw [56, 58] s I I') := by
  refine hM.of (by decide +kernel) (Nat.le_of_ble_eq_true rfl) ?_
  intro z hl h0 hD hS hN C E
  subst hl; subst h0; subst hD; subst hS
  have C : hC z RX11 cX11_write := C
  have hZ := E.2.2.2.1
  show hX z 0 0 (T, I, L, R, A) [(0, .ref (A 63)), (1, .int (nI s))] 0 []
  have hs5 : s < 5 := by omega
  have hm6 := hp.2.2.2.2.1
  have hz5 := hp.2.2.2.2.2.1 nx
  refine x_aload_n C dX11_write_0 0 rfl rfl ?_
  refine x_iload_n C dX11_write_1 1 rfl rfl ?_
  refine x_callV C (ok_X11_isSide mO ns hns hn4 s hs) mv_X11_isSide ml_X11_415 mO.1 rfl rfl rfl (Nat.le_of_ble_eq_true rfl) (hrm (rm := { frames := 0, cells := 0, slots := 0, locals := 0 }) hZ ⟨Nat.le_of_ble_eq_true rfl, Nat.le_of_ble_eq_true rfl⟩) (hcs hZ ⟨Nat.le_of_ble_eq_true rfl, Nat.le_of_ble_eq_true rfl⟩) dX11_write_2 (fun v G' hp => ?_)
  obtain ⟨rfl, rfl⟩ := hp
  show hX z 0 0 (T, I, L, R, A) [(0, .ref (A 63)), (1, .int (nI s))] 5 [.int (nI 1)]
  refine x_if_neN (tgt := 11) C (by omega) dX11_write_5 (by decide) (fun c5 => ?_) (fun c5 => absurd c5 (by omega))
  refine x_aload_n C dX11_write_11 0 rfl rfl ?_
  refine x_getrN C fl_X11_198 mO.1 rfl (mO.2.2 41 _ rfl).1 dX11_write_12 ?_
  refine x_iload_n C dX11_write_15 1 rfl rfl ?_
  refine x_zaldN C (mO.2.2 41 _ rfl).2.1 (by omega) (by omega) dX11_write_16 ?_
  refine x_eqi (y := nI 0) (hE.2.2.2.2.2.2.2.2.2.trans (by rw [decide_eq_false (by omega)]; rfl)) ?_
  refine x_if_neN (tgt := 40) C (by omega) dX11_write_17 (by decide) (fun c17 => absurd c17 (by omega)) (fun c17 => ?_)
  refine x_aload_n C dX11_write_20 0 rfl rfl ?_
  refine x_getrN C fl_X11_195 mO.1 rfl (mO.2.2 40 _ rfl).1 dX11_write_21 ?_
  refine x_iload_n C dX11_write_24 1 rfl rfl ?_
  refine x_ialdN C (mO.2.2 40 _ rfl).2.1 (by omega) (by omega) dX11_write_25 ?_
  refine x_eqi (y := nI nx) (hE.2.2.2.2.2.2.2.1.2.2.2.2.2.trans hnx) ?_
  refine x_iconst (v := nI 2) C dX11_write_26 (by decide +kernel) ?_
  refine x_iremN C (by omega) (by omega) (by omega) dX11_write_27 ?_
  refine x_aload_n C dX11_write_28 0 rfl rfl ?_
  refine x_getrN C fl_X11_180 mO.1 rfl (mO.2.2 35 _ rfl).1 dX11_write_29 ?_
  refine x_iload_n C dX11_write_32 1 rfl rfl ?_
  refine x_ialdN C (mO.2.2 35 _ rfl).2.1 (by omega) (by omega) dX11_write_33 ?_
  refine x_eqi (y := nI ha) hha ?_
  refine x_icmp_eqN (tgt := 40) C (by omega) (by omega) dX11_write_34 (by decide) (fun c34 => ?_) (fun c34 => absurd c34 (by omega))
  refine x_iconst (v := nI 0) C dX11_write_40 (by decide +kernel) ?_
  refine x_istore_n (lv' := [(2, .int (nI 0)), (0, .ref (A 63)), (1, .int (nI s))]) C dX11_write_41 rfl (Nat.lt_of_lt_of_eq (by decide) hN.symm) rfl ?_
  refine x_aload_n C dX11_write_42 1 rfl rfl ?_
  refine x_getrN C fl_X11_198 mO.1 rfl (mO.2.2 41 _ rfl).1 dX11_write_43 ?_
  refine x_iload_n C dX11_write_46 2 rfl rfl ?_
  refine x_zaldN C (mO.2.2 41 _ rfl).2.1 (by omega) (by omega) dX11_write_47 ?_
  refine x_eqi (y := nI 0) (hE.2.2.2.2.2.2.2.2.2.trans (by rw [decide_eq_false (by omega)]; rfl)) ?_
  refine x_if_eqN (tgt := 167) C (by omega) dX11_write_48 (by decide) (fun c48 => ?_) (fun c48 => absurd c48 (by omega))
  refine x_bipush (v := nI 6) C dX11_write_167 (by decide +kernel) ?_
  refine x_aload_n C dX11_write_169 1 rfl rfl ?_
  refine x_getrN C fl_X11_177 mO.1 rfl (mO.2.2 34 _ rfl).1 dX11_write_170 ?_
  refine x_iload_n C dX11_write_173 2 rfl rfl ?_
  refine x_ialdN C (mO.2.2 34 _ rfl).2.1 (by omega) (by omega) dX11_write_174 ?_
  refine x_eqi (y := nI p) hp34 ?_
  refine x_imulN C dX11_write_175 ?_
  refine x_aload_n C dX11_write_176 1 rfl rfl ?_
  refine x_getrN C fl_X11_195 mO.1 rfl (mO.2.2 40 _ rfl).1 dX11_write_177 ?_
  refine x_iload_n C dX11_write_180 2 rfl rfl ?_
  refine x_ialdN C (mO.2.2 40 _ rfl).2.1 (by omega) (by omega) dX11_write_181 ?_
  refine x_eqi (y := nI nx) (hE.2.2.2.2.2.2.2.1.2.2.2.2.2.trans hnx) ?_
  refine x_iaddN C dX11_write_182 ?_
  refine x_istore_n (lv' := [(3, .int (nI (6 * p + nx))), (2, .int (nI 0)), (0, .ref (A 63)), (1, .int (nI s))]) C dX11_write_183 rfl (Nat.lt_of_lt_of_eq (by decide) hN.symm) rfl ?_
  refine x_iconst (v := nI 0) C dX11_write_184 (by decide +kernel) ?_
  refine x_istore (lv' := [(4, .int (nI 0)), (3, .int (nI (6 * p + nx))), (2, .int (nI 0)), (0, .ref (A 63)), (1, .int (nI s))]) C dX11_write_185 (Nat.lt_of_lt_of_eq (by decide) hN.symm) rfl ?_
  have L187 : ∀ (fuel_ : Nat) (k : Nat) (J : Nat → Nat → Int32) (K : Nat → Nat → Int64), sz nx - k < fuel_ → (k ≤ sz nx) → (mdE (sdK sd sec pub ha (tk nx) σ k).1 J s false) → (∀ j, j < (sdK sd sec pub ha (tk nx) σ k).2.2 → J 57 j = (sdK sd sec pub ha (tk nx) σ k).2.1 j) → (mF 5 s I J) → hX z 0 0 (T, J, K, R, A) [(4, .int (nI k)), (3, .int (nI (6 * p + nx))), (2, .int (nI ((sdK sd sec pub ha (tk nx) σ k).2.2))), (0, .ref (A 63)), (1, .int (nI s))] 187 [] := by
    intro fuel_
    induction fuel_ with
    | zero => intro k J K hmz; exact absurd hmz (Nat.not_lt_zero _)
    | succ fuel_ ih187 =>
      intro k J K hmz hk hG hl hF
      have hw8 : (sdK sd sec pub ha (tk nx) σ k).2.2 ≤ 80 := Nat.le_trans (sdK_len k) (Nat.le_trans (lnK_mono hk) hln)
      refine x_iload C dX11_write_187 0 rfl ?_
      refine x_aload_n C dX11_write_189 3 rfl rfl ?_
      refine x_getrN C fl_X11_159 mO.1 rfl (mO.2.2 27 _ rfl).1 dX11_write_190 ?_
      refine x_iload_n C dX11_write_193 1 rfl rfl ?_
      refine x_ialdN C (mO.2.2 27 _ rfl).2.1 (by omega) (by omega) dX11_write_194 ?_
      refine x_eqi (y := nI (sz nx)) (by rw [hF.o 27 (by decide) (by decide)]; exact hp.2.2.1 nx hnm) ?_
      refine x_icmp_geN (tgt := 222) C (by omega) (by omega) dX11_write_195 (by decide) (fun c195 => ?_) (fun c195 => ?_)
      · refine x_aload_n C dX11_write_222 3 rfl rfl ?_
        refine x_getrN C fl_X11_240 mO.1 rfl (mO.2.2 55 _ rfl).1 dX11_write_223 ?_
        refine x_iconst (v := nI 0) C dX11_write_226 (by decide +kernel) ?_
        refine x_aload_n C dX11_write_227 3 rfl rfl ?_
        refine x_getrN C fl_X11_243 mO.1 rfl (mO.2.2 57 _ rfl).1 dX11_write_228 ?_
        refine x_iload_n C dX11_write_231 2 rfl rfl ?_
        refine x_aload_n C dX11_write_232 3 rfl rfl ?_
        refine x_getiN C fl_X11_418 mO.1 rfl dX11_write_233 ?_
        refine x_eqi (y := nI tn) (by rw [hF.2.1 56 (by decide)]; exact htn) ?_
        refine x_callS C (ok_X11_copy 55 57 (0) (((sdK sd sec pub ha (tk nx) σ k).2.2)) (tn) 64 400 (mO.2.2 55 _ rfl).2.1 (mO.2.2 57 _ rfl).2.1 (mO.2.2 57 _ rfl).2.2 (by omega) (by omega) (by decide) (by decide) (fun e => absurd e (by decide))) ms_X11_copy ml_X11_270 rfl rfl (Nat.le_of_ble_eq_true rfl) (hrm (rm := { frames := 0, cells := 0, slots := 0, locals := 0 }) hZ ⟨Nat.le_of_ble_eq_true rfl, Nat.le_of_ble_eq_true rfl⟩) (hcs hZ ⟨Nat.le_of_ble_eq_true rfl, Nat.le_of_ble_eq_true rfl⟩) dX11_write_236 (fun v G' hp => ?_)
        obtain ⟨rfl, rfl⟩ := hp
        generalize eI1 : va_up J 57 (fun j => if ((sdK sd sec pub ha (tk nx) σ k).2.2) ≤ j ∧ j < ((sdK sd sec pub ha (tk nx) σ k).2.2) + tn then J 55 (0 + (j - ((sdK sd sec pub ha (tk nx) σ k).2.2))) else J 57 j) = I1
        have eI1 := eI1.symm
        have x1 : ∀ j, j < tn → I1 57 ((sdK sd sec pub ha (tk nx) σ k).2.2 + j) = tp j := fun j hj => by rw [eI1, va_up_same]; show (if (sdK sd sec pub ha (tk nx) σ k).2.2 ≤ (sdK sd sec pub ha (tk nx) σ k).2.2 + j ∧ (sdK sd sec pub ha (tk nx) σ k).2.2 + j < (sdK sd sec pub ha (tk nx) σ k).2.2 + tn then J 55 (0 + ((sdK sd sec pub ha (tk nx) σ k).2.2 + j - (sdK sd sec pub ha (tk nx) σ k).2.2)) else _) = _; rw [if_pos (by omega), show 0 + ((sdK sd sec pub ha (tk nx) σ k).2.2 + j - (sdK sd sec pub ha (tk nx) σ k).2.2) = j by omega, hF.o 55 (by decide) (by decide)]; exact htp j hj
        have x0 : ∀ j, j < (sdK sd sec pub ha (tk nx) σ k).2.2 → I1 57 j = (sdK sd sec pub ha (tk nx) σ k).2.1 j := fun j hj => by rw [eI1, va_up_same]; show (if (sdK sd sec pub ha (tk nx) σ k).2.2 ≤ j ∧ j < (sdK sd sec pub ha (tk nx) σ k).2.2 + tn then _ else J 57 j) = _; rw [if_neg (by omega)]; exact hl j hj
        have F3 : fmS [57] J I1 := by rw [eI1]; exact (fmS.of fx.rf (by decide)).u (by decide) (by decide)
        show hX z 0 0 (T, I1, K, R, A) [(4, .int (nI k)), (3, .int (nI (6 * p + nx))), (2, .int (nI ((sdK sd sec pub ha (tk nx) σ k).2.2))), (0, .ref (A 63)), (1, .int (nI s))] 239 []
        refine x_iload_n C dX11_write_239 2 rfl rfl ?_
        refine x_aload_n C dX11_write_240 3 rfl rfl ?_
        refine x_iload_n C dX11_write_241 4 rfl rfl ?_
        refine x_aload_n C dX11_write_242 3 rfl rfl ?_
        refine x_getrN C fl_X11_243 mO.1 rfl (mO.2.2 57 _ rfl).1 dX11_write_243 ?_
        refine x_iload_n C dX11_write_246 2 rfl rfl ?_
        refine x_aload_n C dX11_write_247 3 rfl rfl ?_
        refine x_getiN C fl_X11_418 mO.1 rfl dX11_write_248 ?_
        refine x_eqi (y := nI tn) (by rw [eI1, va_up_other _ _ (by decide), hF.2.1 56 (by decide)]; exact htn) ?_
        refine x_callV C (ok_X11_seal mO (F3.c (by decide) (by decide) (hF.c hc)) s hs5 (hkS (sdK sd sec pub ha (tk nx) σ k).1) ((sdK sd sec pub ha (tk nx) σ k).1 7 10) (by rw [F3.o 42 (by decide) (by decide), hG.2.2.2.2.2.2.2.1.1]; exact hkS_b (sdK_b hb k)) (by rw [F3.o 43 (by decide) (by decide)]; exact hG.2.2.2.2.2.2.2.1.2.2.2.1) (fun j hj => by rw [F3.o 48 (by decide) (by decide), hG.2.1 j hj]; exact (sdK_b hb k).1 j hj) (sdK sd sec pub ha (tk nx) σ k).2.2 tn (by omega) ht64 (fun j hj => by rw [x1 j hj]; exact htb j hj)) mv_X11_seal ml_X11_433 mO.1 rfl rfl rfl (Nat.le_of_ble_eq_true rfl) (hrm (rm := { frames := 0, cells := 0, slots := 0, locals := 0 }) hZ ⟨Nat.le_of_ble_eq_true rfl, Nat.le_of_ble_eq_true rfl⟩) (hcs hZ ⟨Nat.le_of_ble_eq_true rfl, Nat.le_of_ble_eq_true rfl⟩) dX11_write_251 (fun v G' hp => ?_)
        obtain ⟨rfl, J4, rfl, q1, q2, q3, q4, q5⟩ := hp
        have es : ∀ j, j < slN (hkS (sdK sd sec pub ha (tk nx) σ k).1) tn → slF (hkS (sdK sd sec pub ha (tk nx) σ k).1) (fun i => I1 49 (32 * s + i)) ((sdK sd sec pub ha (tk nx) σ k).1 7 10) 32 (fun j => byt (I1 48 (32 * s + j))) (fun j => I1 57 ((sdK sd sec pub ha (tk nx) σ k).2.2 + j)) tn j = selF (sdK sd sec pub ha (tk nx) σ k).1 tp tn j := fun j hj => slF_cg (fun i hi => by rw [F3.o 49 (by decide) (by decide)]; exact hG.2.2.1 i hi) (fun i hi => by show byt _ = byt _; rw [F3.o 48 (by decide) (by decide), hG.2.1 i hi]) (fun i hi => x1 i hi) j hj
        have w48 : wRow J J4 48 s (mixF ((sdK sd sec pub ha (tk nx) σ k).1 1) (selF (sdK sd sec pub ha (tk nx) σ k).1 tp tn) (slN (hkS (sdK sd sec pub ha (tk nx) σ k).1) tn)) := by rw [← mixF_cg (fun i hi => (show I1 48 (32 * s + i) = (sdK sd sec pub ha (tk nx) σ k).1 1 i by rw [F3.o 48 (by decide) (by decide)]; exact hG.2.1 i hi)) es]; exact q3.fr (F3.o 48 (by decide) (by decide))
        have F4 : fmS [0, 2, 3, 14, 15, 16, 17, 18, 19, 20, 21, 22, 23, 43, 48, 57] J J4 := (F3.w (by simp)).t q5 (by simp)
        have g43 : J4 43 = upd (J 43) s (nxN (sdK sd sec pub ha (tk nx) σ k).1) := by rw [q4, F3.o 43 (by decide) (by decide)]; rfl
        have b1 : mdE (opS (sdK sd sec pub ha (tk nx) σ k).1 tp tn) J4 s false := hG.s w48.1 (by rw [g43]; simp [upd, opS, sFl, sgR]) (fun q h1 h2 => by intros; exact F4.o q (by simp; omega) (by omega))
        have b2 : mF 5 s J J4 := mF.fm F4 (by decide) (h13Z.o (F4.o 13 (by decide) (by decide))) (by intro q h1 h2 h3; simp at h1; rcases (show q = 43 ∨ q = 48 by omega) with rfl | rfl; exact sdO.fld g43 (by decide); exact sdO.row w48 (by decide))
        have b3 := hF.tr b2
        show hX z 0 0 (T, J4, K, R, A) [(4, .int (nI k)), (3, .int (nI (6 * p + nx))), (2, .int (nI ((sdK sd sec pub ha (tk nx) σ k).2.2))), (0, .ref (A 63)), (1, .int (nI s))] 254 [.int (nI (slN (hkS (sdK sd sec pub ha (tk nx) σ k).1) tn)), .int (nI ((sdK sd sec pub ha (tk nx) σ k).2.2))]
        refine x_iaddN C dX11_write_254 ?_
        refine x_istore_n (lv' := [(2, .int (nI ((sdK sd sec pub ha (tk nx) σ k).2.2 + (slN (hkS (sdK sd sec pub ha (tk nx) σ k).1) tn)))), (4, .int (nI k)), (3, .int (nI (6 * p + nx))), (0, .ref (A 63)), (1, .int (nI s))]) C dX11_write_255 rfl (Nat.lt_of_lt_of_eq (by decide) hN.symm) rfl ?_
        refine x_aload_n C dX11_write_256 3 rfl rfl ?_
        refine x_iload_n C dX11_write_257 4 rfl rfl ?_
        refine x_callV C (ok_X11_ends mO (b3.c hc) s hs5 (opS (sdK sd sec pub ha (tk nx) σ k).1 tp tn) b1 nx (by rw [opS_7 (by decide)]; exact (sdK_7 (by omega) _).trans hnx) p ms (by rw [b3.o 34 (by decide) (by decide)]; exact hp34) hp8 (by rw [b3.o 26 (by decide) (by decide)]; exact hp.2.1) hnm hm6 ha (by rw [b3.o 35 (by decide) (by decide)]; exact hha) ha2) mv_X11_ends ml_X11_447 mO.1 rfl rfl rfl (Nat.le_of_ble_eq_true rfl) (hrm (rm := { frames := 0, cells := 0, slots := 0, locals := 0 }) hZ ⟨Nat.le_of_ble_eq_true rfl, Nat.le_of_ble_eq_true rfl⟩) (hcs hZ ⟨Nat.le_of_ble_eq_true rfl, Nat.le_of_ble_eq_true rfl⟩) dX11_write_258 (fun v G' hp => ?_)
        obtain ⟨rfl, J5, rfl, z1, z2, z3, -, -⟩ := hp
        show hX z 0 0 (T, J5, K, R, A) [(2, .int (nI ((sdK sd sec pub ha (tk nx) σ k).2.2 + (slN (hkS (sdK sd sec pub ha (tk nx) σ k).1) tn)))), (4, .int (nI k)), (3, .int (nI (6 * p + nx))), (0, .ref (A 63)), (1, .int (nI s))] 261 []
        refine x_aload_n C dX11_write_261 3 rfl rfl ?_
        refine x_iload_n C dX11_write_262 0 rfl rfl ?_
        refine x_putiN C fl_X11_450 mO.1 mO.2.1 rfl dX11_write_263 (fun I2 eI2 => ?_)
        refine x_aload_n C dX11_write_266 3 rfl rfl ?_
        refine x_iconst (v := nI 0) C dX11_write_267 (by decide +kernel) ?_
        refine x_putiN C fl_X11_418 mO.1 mO.2.1 rfl dX11_write_268 (fun I3 eI3 => ?_)
        refine x_iload_n C dX11_write_271 0 rfl rfl ?_
        exact x_iret C E (Nat.le_of_ble_eq_true rfl) (Nat.le_of_ble_eq_true rfl) dX11_write_272 (by
            have ek : k = sz nx := by omega
            subst ek
            have oq : ∀ q, q ≠ 63 → I3 q = J5 q := fun q hq => by rw [eI3, va_up_other _ _ hq, eI2, va_up_other _ _ hq]
            refine ⟨rfl, I3, K, rfl, z1.u63 oq, ?_, ?_, ?_, J5, b3.tr z2, oq, ?_⟩
            · intro j hj
              rw [oq 57 (by decide), z3]
              exact lay_s (fun j hj => by rw [q2 j (Or.inl hj)]; exact x0 j hj) (fun j hj => (q1 j hj).trans (es j hj)) j hj
            · rw [eI3, va_up_same]; simp [upd]; rw [eI2, va_up_same]; simp [upd]; rfl
            · rw [eI3, va_up_same]; simp [upd]
            · intro j hj
              simp at hj
              rw [eI3, va_up_same]; unfold upd; rw [if_neg hj.1, eI2, va_up_same]; unfold upd; rw [if_neg hj.2])
      · refine x_aload_n C dX11_write_198 3 rfl rfl ?_
        refine x_iload_n C dX11_write_199 4 rfl rfl ?_
        refine x_aload_n C dX11_write_200 3 rfl rfl ?_
        refine x_getrN C fl_X11_162 mO.1 rfl (mO.2.2 28 _ rfl).1 dX11_write_201 ?_
        refine x_iconst (v := nI 5) C dX11_write_204 (by decide +kernel) ?_
        refine x_iload_n C dX11_write_205 1 rfl rfl ?_
        refine x_imulN C dX11_write_206 ?_
        refine x_iload C dX11_write_207 0 rfl ?_
        refine x_iaddN C dX11_write_209 ?_
        refine x_ialdN C (mO.2.2 28 _ rfl).2.1 (by omega) (by omega) dX11_write_210 ?_
        refine x_eqi (y := nI (tk nx k)) (by rw [hF.o 28 (by decide) (by decide)]; exact hp.2.2.2.1 nx hnm k c195) ?_
        refine x_iload_n C dX11_write_211 2 rfl rfl ?_
        refine x_callV C (ok_X11_writesToken mO (hF.c hc) s hs5 (hF.2.2.1 h13) (sdK sd sec pub ha (tk nx) σ k).1 (sdK sd sec pub ha (tk nx) σ k).2.1 (sdK sd sec pub ha (tk nx) σ k).2.2 hG (sdK_b hb k) hw8 hl ha (by rw [hF.o 35 (by decide) (by decide)]; exact hha) ha2 sd (by rw [hF.o 38 (by decide) (by decide)]; exact hsd) sec pub (hsec.o (hF.o 51 (by decide) (by decide))) (tk nx k) (hp.2.2.2.2.2.2 nx k) (hpub k c195) (fun h1 h2 => (sdK_7 (by omega) k).trans (hx k c195 h1 h2))) mv_X11_writesToken ml_X11_443 mO.1 rfl rfl rfl (Nat.le_of_ble_eq_true rfl) (hrm (rm := { frames := 0, cells := 0, slots := 0, locals := 0 }) hZ ⟨Nat.le_of_ble_eq_true rfl, Nat.le_of_ble_eq_true rfl⟩) (hcs hZ ⟨Nat.le_of_ble_eq_true rfl, Nat.le_of_ble_eq_true rfl⟩) dX11_write_212 (fun v G' hp => ?_)
        obtain ⟨rfl, J1, K1, rfl, a1, a2, a3⟩ := hp
        show hX z 0 0 (T, J1, K1, R, A) [(4, .int (nI k)), (3, .int (nI (6 * p + nx))), (2, .int (nI ((sdK sd sec pub ha (tk nx) σ k).2.2))), (0, .ref (A 63)), (1, .int (nI s))] 215 [.int (nI ((sdK sd sec pub ha (tk nx) σ (k + 1)).2.2))]
        refine x_istore_n (lv' := [(2, .int (nI ((sdK sd sec pub ha (tk nx) σ (k + 1)).2.2))), (4, .int (nI k)), (3, .int (nI (6 * p + nx))), (0, .ref (A 63)), (1, .int (nI s))]) C dX11_write_215 rfl (Nat.lt_of_lt_of_eq (by decide) hN.symm) rfl ?_
        refine x_iinc (v := nI (k + 1)) (lv' := [(4, .int (nI (k + 1))), (2, .int (nI ((sdK sd sec pub ha (tk nx) σ (k + 1)).2.2))), (3, .int (nI (6 * p + nx))), (0, .ref (A 63)), (1, .int (nI s))]) C dX11_write_216 1 rfl (nI_inc 1) (Nat.lt_of_lt_of_eq (by decide) hN.symm) rfl ?_
        refine x_goto (tgt := 187) C dX11_write_219 (by decide) ?_
        refine x_sub (lv' := _) [0, 2, 1, 3, 4] rfl ?_
        exact ih187 (k + 1) J1 K1 (by omega) (by omega) a1 a2 (hF.tr a3)
  refine x_sub (lv' := _) [0, 1, 2, 3, 4] rfl ?_
  exact L187 _ 0 I L (Nat.lt_succ_self _) (Nat.zero_le _) (by have h := hE; rw [decide_eq_false (by omega)] at h; exact h) (fun j hj => absurd hj (Nat.not_lt_zero j)) mF.rf

