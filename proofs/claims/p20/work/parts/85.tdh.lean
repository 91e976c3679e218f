/-! ===== Talk: DH, ends, e ===== -/
def oEb (t ha : Nat) : Bool := if ha = 0 then decide (t = 2 ∨ t = 3) else decide (t = 2 ∨ t = 4)
def xEb (t ha : Nat) : Bool := if ha = 0 then decide (t = 2 ∨ t = 4) else decide (t = 2 ∨ t = 3)
/-- what DH gives, byte for byte -/
def dhF (s : Nat → Int32) (b : Nat → Nat) (j : Nat) : Int32 := nI (byN (dhV (bitS (scl s)) b) j)
theorem keyT_cg {c c' x x' : Nat → Int32} {n : Nat} (hc : ∀ i, i < 32 → c i = c' i) (hx : ∀ i, i < n → x i = x' i) : keyT c x n = keyT c' x' n := hmac_congr hc hx
theorem key1_cg {c c' x x' : Nat → Int32} {n : Nat} (hc : ∀ i, i < 32 → c i = c' i) (hx : ∀ i, i < n → x i = x' i) : key1 c x n = key1 c' x' n := by unfold key1; rw [keyT_cg hc hx]
theorem key2_cg {c c' x x' : Nat → Int32} {n : Nat} (hc : ∀ i, i < 32 → c i = c' i) (hx : ∀ i, i < n → x i = x' i) : key2 c x n = key2 c' x' n := by unfold key2; rw [keyT_cg hc hx, key1_cg hc hx]
theorem ptV_cg {b b' : Nat → Nat} (h : ∀ j, j < 32 → b j = b' j) : dhV = dhV := rfl
theorem x_getsNN {z : hZ} {own : String} {cc : ByteArray} {cells slots pc : Nat} {lv : List (Nat × Value)} {rest : List Value} {T : Nat → Option hKd} {I : Nat → Nat → Int32} {L : Nat → Nat → Int64} {R : Nat → Nat → Option Nat} {A : Nat → Nat} (C : hC z own cc) {index k a : Nat} {q : String × String} {host : String} (hA : zS z k = A a) (hq : hSt[k]? = some q) (hl : Cond.fieldLinkNest own index q.1 q.2 "[I" host ∈ lw_n) (d : decode cc pc = .ok (.getstatic index, 3)) (kk : hX z cells slots (T, I, L, R, A) lv (pc + 3) (.ref (A a) :: rest)) : hX z cells slots (T, I, L, R, A) lv pc rest := by
  intro H locs ls h1 h2 h3
  refine va_getsN C.1 C.2.1 (C.2.2.2.2.2.1.2.1 k q hq) h2 C.2.2.2.1 (va_Nw.use rfl (C.2.2.2.2.2.1.2.2.1 _ hl)) (fun _ h => h) d ?_
  rw [hA]
  exact kk H locs ls h1 h2 h3
theorem isSt.r121 {T : Nat → Option hKd} {R R' : Nat → Nat → Option Nat} {A : Nat → Nat} {a0 u : Nat} (h : isSt T R A a0 u) (hu : 143 ≤ u) (f : fr121 R R') : isSt T R' A a0 u := by
  refine ⟨h.1, h.2.1, fun j hj => ?_⟩
  rw [f.1 u (by omega)]
  exact h.2.2 j hj
theorem isSd.r121 {T : Nat → Option hKd} {R R' : Nat → Nat → Option Nat} {A : Nat → Nat} {a0 S P : Nat} (h : isSd T R A a0 S P) (hu : 300 ≤ S) (f : fr121 R R') : isSd T R' A a0 S P := by
  refine ⟨h.1, ?_, h.2.2.1, h.2.2.2.r121 (by omega) f⟩
  rw [f.1 S (by omega)]
  exact h.2.1
theorem isPt.r121 {T : Nat → Option hKd} {R R' : Nat → Nat → Option Nat} {A : Nat → Nat} {a0 P : Nat} (h : isPt T R A a0 P) (hu : 200 ≤ P) (f : fr121 R R') : isPt T R' A a0 P := by
  refine ⟨h.1, h.2.1, h.2.2.1, ?_, ?_, fun m hm => ?_⟩
  · rw [f.1 P (by omega)]; exact h.2.2.2.1
  · rw [f.1 P (by omega)]; exact h.2.2.2.2.1
  · rw [f.1 (P + 1) (by omega)]; exact h.2.2.2.2.2 m hm
set_option maxHeartbeats 4000000 in
set_option maxRecDepth 100000 in
theorem ok_X9_mixDh {l : Launch} {a0 : Nat} {D : va_G} {sa : Nat → Nat} {T : Nat → Option hKd} {I : Nat → Nat → Int32} {L : Nat → Nat → Int64} {R : Nat → Nat → Option Nat} {A : Nat → Nat} (xO : isX T R A a0) (hsa : ∀ k, k < 5 → sa k = A (90 + k)) (S P : Nat) (hSd : isSd T R A a0 S P) (ha : Nat) (hha : I S 2 = nI ha) (ha2 : ha < 2) (hS3 : 300 ≤ S) (u : Nat) (hu : isSt T R A a0 u) (hu143 : 143 ≤ u) (hu2 : u = 143 ∨ u = S + 4) (cp cq cr cs : Nat) (h4 : cv4 R cp cq cr cs) (hst : stI I) (t : Nat) (ht : 2 ≤ t ∧ t ≤ 5) (hbE : ∀ j, j < 32 → byt (I (u + 1 + 5) j) < 256) (hbS : xEb t ha = false → ∀ j, j < 32 → byt (I (u + 1 + 6) j) < 256) : hM l a0 D sa yX9_mixDh cX9_mixDh 10 none { frames := 5, cells := 0, slots := 0, locals := 184 } [.ref (A 109), .ref (A S), .ref (A u), .int (nI t)] (T, I, L, R, A) (fun r G' => r = none ∧ ∃ I' L' R', G' = (T, I', L', R', A) ∧ (∀ i, i < 32 → I' (u + 1 + 0) i = key1 (I (u + 1 + 0)) (dhF (I (if oEb t ha then u + 1 + 4 else S + 1)) (fun j => byt (I (if xEb t ha then u + 1 + 5 else u + 1 + 6) j))) 32 i) ∧ (∀ i, i < 32 → I' (u + 1 + 2) i = key2 (I (u + 1 + 0)) (dhF (I (if oEb t ha then u + 1 + 4 else S + 1)) (fun j => byt (I (if xEb t ha then u + 1 + 5 else u + 1 + 6) j))) 32 i) ∧ I' u = upd (upd (I u) 7 (nI 1)) 10 (nI 0) ∧ fx [115, 116, 117, 118, 119, 120, 122, 152, u, u + 1 + 0, u + 1 + 2] I I' ∧ fr121 R R' ∧ ∃ p q r s, cv4 R' p q r s) := by
  refine hM.of (by decide +kernel) (Nat.le_of_ble_eq_true rfl) ?_
  intro z hl h0 hD hS hN C E
  subst hl; subst h0; subst hD; subst hS
  have C : hC z RX9 cX9_mixDh := C
  have hZ := E.2.2.2.1
  show hX z 0 0 (T, I, L, R, A) [(0, .ref (A 109)), (1, .ref (A S)), (2, .ref (A u)), (3, .int (nI t))] 0 []
  have J15 : ∀ (x : Bool), (x = decide (t = 2 ∨ t = 3)) → hX z 0 0 (T, I, L, R, A) [(0, .ref (A 109)), (1, .ref (A S)), (2, .ref (A u)), (3, .int (nI t))] 15 [.int (bI x)] := by
    intro x hx
    refine x_istore (lv' := [(4, .int (bI x)), (0, .ref (A 109)), (1, .ref (A S)), (2, .ref (A u)), (3, .int (nI t))]) C dX9_mixDh_15 (Nat.lt_of_lt_of_eq (by decide) hN.symm) rfl ?_
    have J32 : ∀ (y : Bool), (y = decide (t = 2 ∨ t = 4)) → hX z 0 0 (T, I, L, R, A) [(4, .int (bI x)), (0, .ref (A 109)), (1, .ref (A S)), (2, .ref (A u)), (3, .int (nI t))] 32 [.int (bI y)] := by
      intro y hy
      refine x_istore (lv' := [(5, .int (bI y)), (4, .int (bI x)), (0, .ref (A 109)), (1, .ref (A S)), (2, .ref (A u)), (3, .int (nI t))]) C dX9_mixDh_32 (Nat.lt_of_lt_of_eq (by decide) hN.symm) rfl ?_
      have J48 : ∀ (ow : Bool), (ow = oEb t ha) → hX z 0 0 (T, I, L, R, A) [(5, .int (bI y)), (4, .int (bI x)), (0, .ref (A 109)), (1, .ref (A S)), (2, .ref (A u)), (3, .int (nI t))] 48 [.int (bI ow)] := by
        intro ow how
        refine x_istore (lv' := [(6, .int (bI ow)), (5, .int (bI y)), (4, .int (bI x)), (0, .ref (A 109)), (1, .ref (A S)), (2, .ref (A u)), (3, .int (nI t))]) C dX9_mixDh_48 (Nat.lt_of_lt_of_eq (by decide) hN.symm) rfl ?_
        have J64 : ∀ (ot : Bool), (ot = xEb t ha) → hX z 0 0 (T, I, L, R, A) [(6, .int (bI ow)), (5, .int (bI y)), (4, .int (bI x)), (0, .ref (A 109)), (1, .ref (A S)), (2, .ref (A u)), (3, .int (nI t))] 64 [.int (bI ot)] := by
          intro ot hot
          refine x_istore (lv' := [(7, .int (bI ot)), (6, .int (bI ow)), (5, .int (bI y)), (4, .int (bI x)), (0, .ref (A 109)), (1, .ref (A S)), (2, .ref (A u)), (3, .int (nI t))]) C dX9_mixDh_64 (Nat.lt_of_lt_of_eq (by decide) hN.symm) rfl ?_
          refine x_iload C dX9_mixDh_66 1 rfl ?_
          refine x_if_eq (tgt := 78) C dX9_mixDh_68 (by decide) (fun c68 => ?_) (fun c68 => ?_)
          · refine x_aload_n C dX9_mixDh_78 5 rfl rfl ?_
            refine x_getrN C fl_X9_83 hSd.1.1 rfl hSd.2.1.2.1 dX9_mixDh_79 ?_
            refine x_astore (lv' := [(8, .ref (A (S + 1))), (7, .int (bI ot)), (6, .int (bI ow)), (5, .int (bI y)), (4, .int (bI x)), (0, .ref (A 109)), (1, .ref (A S)), (2, .ref (A u)), (3, .int (nI t))]) C dX9_mixDh_82 (Nat.lt_of_lt_of_eq (by decide) hN.symm) rfl ?_
            refine x_iload C dX9_mixDh_84 1 rfl ?_
            refine x_if_eq (tgt := 96) C dX9_mixDh_86 (by decide) (fun c86 => ?_) (fun c86 => ?_)
            · refine x_aload_n C dX9_mixDh_96 7 rfl rfl ?_
              refine x_getrN C fl_X9_126 hu.1 rfl (hu.2.2 6 (by decide)).1 dX9_mixDh_97 ?_
              refine x_astore (lv' := [(9, .ref (A (u + 1 + 6))), (8, .ref (A (S + 1))), (7, .int (bI ot)), (6, .int (bI ow)), (5, .int (bI y)), (4, .int (bI x)), (0, .ref (A 109)), (1, .ref (A S)), (2, .ref (A u)), (3, .int (nI t))]) C dX9_mixDh_100 (Nat.lt_of_lt_of_eq (by decide) hN.symm) rfl ?_
              refine x_aload_n C dX9_mixDh_102 6 rfl rfl ?_
              refine x_getrN C fl_X9_28 (xO.1 109 _ rfl).1 rfl (xO.2.1 109 2 _ rfl) dX9_mixDh_103 ?_
              refine x_aload C dX9_mixDh_106 1 rfl ?_
              refine x_aload C dX9_mixDh_108 0 rfl ?_
              refine x_aload_n C dX9_mixDh_110 6 rfl rfl ?_
              refine x_getrN C fl_X9_50 (xO.1 109 _ rfl).1 rfl (xO.2.1 109 6 _ rfl) dX9_mixDh_111 ?_
              refine x_callV C (ok_X1_multiplyPoint xO hsa cp cq cr cs h4 (S + 1) 32 (u + 1 + 6) 32 152 32 (fun j => byt (I (u + 1 + 6) j)) (hSd.2.2.1 1 (by decide) (by decide)).1 (by decide) (by decide) (hu.2.2 6 (by decide)).2.1 (by decide) (by decide) (by omega) (xO.1 152 _ rfl).1 (xO.1 152 _ rfl).2 (by decide) (by decide) (by decide) (fun j hj => ⟨nI_byt _, by first | exact hbE j hj | exact hbS (hot.symm.trans (bI_F c86)) j hj⟩)) mv_X1_multiplyPoint ml_X9_79 (xO.1 121 _ rfl).1 rfl rfl rfl (Nat.le_of_ble_eq_true rfl) (hrm (rm := { frames := 0, cells := 0, slots := 0, locals := 0 }) hZ ⟨Nat.le_of_ble_eq_true rfl, Nat.le_of_ble_eq_true rfl⟩) (hcs hZ ⟨Nat.le_of_ble_eq_true rfl, Nat.le_of_ble_eq_true rfl⟩) dX9_mixDh_114 (fun v G' hp => ?_)
              obtain ⟨rfl, J1, L1, R1, rfl, d1, d2, d3, d4⟩ := hp
              have xO := isX.r121 xO d3
              have hu := isSt.r121 hu hu143 d3
              have d5 : ∀ i, i < 32 → J1 152 i = dhF (I (S + 1)) (fun j => byt (I (u + 1 + 6) j)) i := fun i hi => by rw [d1]; simp only [hi, if_true]; exact mpF_z _ _ (fun j hj => by first | exact hbE j hj | exact hbS (hot.symm.trans (bI_F c86)) j hj) i
              show hX z 0 0 (T, J1, L1, R1, A) [(9, .ref (A (u + 1 + 6))), (8, .ref (A (S + 1))), (7, .int (bI ot)), (6, .int (bI ow)), (5, .int (bI y)), (4, .int (bI x)), (0, .ref (A 109)), (1, .ref (A S)), (2, .ref (A u)), (3, .int (nI t))] 117 []
              refine x_aload_n C dX9_mixDh_117 6 rfl rfl ?_
              refine x_getrN C fl_X9_21 (xO.1 109 _ rfl).1 rfl (xO.2.1 109 1 _ rfl) dX9_mixDh_118 ?_
              refine x_aload_n C dX9_mixDh_121 8 rfl rfl ?_
              refine x_getrN C fl_X9_119 hu.1 rfl (hu.2.2 0 (by decide)).1 dX9_mixDh_122 ?_
              refine x_aload_n C dX9_mixDh_125 6 rfl rfl ?_
              refine x_getrN C fl_X9_50 (xO.1 109 _ rfl).1 rfl (xO.2.1 109 6 _ rfl) dX9_mixDh_126 ?_
              refine x_bipush (v := nI 32) C dX9_mixDh_129 (by decide +kernel) ?_
              refine x_aload_n C dX9_mixDh_131 8 rfl rfl ?_
              refine x_getrN C fl_X9_119 hu.1 rfl (hu.2.2 0 (by decide)).1 dX9_mixDh_132 ?_
              refine x_aload_n C dX9_mixDh_135 8 rfl rfl ?_
              refine x_getrN C fl_X9_208 hu.1 rfl (hu.2.2 2 (by decide)).1 dX9_mixDh_136 ?_
              refine x_callV C (ok_X2_makeKeys xO hsa (u + 1 + 0) 32 152 32 32 (u + 1 + 0) 32 (u + 1 + 2) 32 (d2.st (by decide) hst) (hu.2.2 0 (by decide)).2.1 (by decide) (by decide) (by omega) (xO.1 152 _ rfl).1 (by decide) (by decide) (by decide) (by decide) (hu.2.2 0 (by decide)).2.1 (by decide) (by decide) (hu.2.2 0 (by decide)).2.2 (by omega) (hu.2.2 2 (by decide)).2.1 (by decide) (by decide) (hu.2.2 2 (by decide)).2.2 (by omega) (by omega) (by omega)) mv_X2_makeKeys ml_X9_247 (xO.1 114 _ rfl).1 rfl rfl rfl (Nat.le_of_ble_eq_true rfl) (hrm (rm := { frames := 0, cells := 0, slots := 0, locals := 0 }) hZ ⟨Nat.le_of_ble_eq_true rfl, Nat.le_of_ble_eq_true rfl⟩) (hcs hZ ⟨Nat.le_of_ble_eq_true rfl, Nat.le_of_ble_eq_true rfl⟩) dX9_mixDh_139 (fun v G' hp => ?_)
              obtain ⟨rfl, J2, rfl, k1, k2, k3⟩ := hp
              show hX z 0 0 (T, J2, L1, R1, A) [(9, .ref (A (u + 1 + 6))), (8, .ref (A (S + 1))), (7, .int (bI ot)), (6, .int (bI ow)), (5, .int (bI y)), (4, .int (bI x)), (0, .ref (A 109)), (1, .ref (A S)), (2, .ref (A u)), (3, .int (nI t))] 142 []
              refine x_aload_n C dX9_mixDh_142 8 rfl rfl ?_
              refine x_iconst (v := nI 1) C dX9_mixDh_143 (by decide +kernel) ?_
              refine x_putzN C fl_X9_135 hu.1 hu.2.1 rfl (by first | exact Or.inl rfl | exact Or.inr rfl | assumption) dX9_mixDh_144 (fun I1 eI1 => ?_)
              refine x_aload_n C dX9_mixDh_147 8 rfl rfl ?_
              refine x_iconst (v := nI 0) C dX9_mixDh_148 (by decide +kernel) ?_
              refine x_putiN C fl_X9_138 hu.1 hu.2.1 rfl dX9_mixDh_149 (fun I2 eI2 => ?_)
              exact x_vret C E (Nat.le_of_ble_eq_true rfl) (Nat.le_of_ble_eq_true rfl) dX9_mixDh_152 (⟨rfl, _, L1, R1, rfl, fun i hi => by rw [eI2, va_up_other _ _ (by omega), eI1, va_up_other _ _ (by omega), k1 i hi, if_neg (by rw [← how, bI_F c68]; decide), if_neg (by rw [← hot, bI_F c86]; decide), d2 (u + 1 + 0) (by simp; omega), key1_cg (fun _ _ => rfl) (fun i hi => d5 i hi)], fun i hi => by rw [eI2, va_up_other _ _ (by omega), eI1, va_up_other _ _ (by omega), k2 i hi, if_neg (by rw [← how, bI_F c68]; decide), if_neg (by rw [← hot, bI_F c86]; decide), d2 (u + 1 + 0) (by simp; omega), key2_cg (fun _ _ => rfl) (fun i hi => d5 i hi)], by rw [eI2, va_up_same, eI1, va_up_same, k3 u (by simp; omega), d2 u (by simp; omega)], by rw [eI2, eI1]; exact (((d2.wk (by simp)).tr k3 (by simp)).up (by simp)).up (by simp), d3, d4⟩)
            · refine x_aload_n C dX9_mixDh_89 7 rfl rfl ?_
              refine x_getrN C fl_X9_235 hu.1 rfl (hu.2.2 5 (by decide)).1 dX9_mixDh_90 ?_
              refine x_goto (tgt := 100) C dX9_mixDh_93 (by decide) ?_
              refine x_astore (lv' := [(9, .ref (A (u + 1 + 5))), (8, .ref (A (S + 1))), (7, .int (bI ot)), (6, .int (bI ow)), (5, .int (bI y)), (4, .int (bI x)), (0, .ref (A 109)), (1, .ref (A S)), (2, .ref (A u)), (3, .int (nI t))]) C dX9_mixDh_100 (Nat.lt_of_lt_of_eq (by decide) hN.symm) rfl ?_
              refine x_aload_n C dX9_mixDh_102 6 rfl rfl ?_
              refine x_getrN C fl_X9_28 (xO.1 109 _ rfl).1 rfl (xO.2.1 109 2 _ rfl) dX9_mixDh_103 ?_
              refine x_aload C dX9_mixDh_106 1 rfl ?_
              refine x_aload C dX9_mixDh_108 0 rfl ?_
              refine x_aload_n C dX9_mixDh_110 6 rfl rfl ?_
              refine x_getrN C fl_X9_50 (xO.1 109 _ rfl).1 rfl (xO.2.1 109 6 _ rfl) dX9_mixDh_111 ?_
              refine x_callV C (ok_X1_multiplyPoint xO hsa cp cq cr cs h4 (S + 1) 32 (u + 1 + 5) 32 152 32 (fun j => byt (I (u + 1 + 5) j)) (hSd.2.2.1 1 (by decide) (by decide)).1 (by decide) (by decide) (hu.2.2 5 (by decide)).2.1 (by decide) (by decide) (by omega) (xO.1 152 _ rfl).1 (xO.1 152 _ rfl).2 (by decide) (by decide) (by decide) (fun j hj => ⟨nI_byt _, by first | exact hbE j hj | exact hbS (hot.symm.trans (bI_F c86)) j hj⟩)) mv_X1_multiplyPoint ml_X9_79 (xO.1 121 _ rfl).1 rfl rfl rfl (Nat.le_of_ble_eq_true rfl) (hrm (rm := { frames := 0, cells := 0, slots := 0, locals := 0 }) hZ ⟨Nat.le_of_ble_eq_true rfl, Nat.le_of_ble_eq_true rfl⟩) (hcs hZ ⟨Nat.le_of_ble_eq_true rfl, Nat.le_of_ble_eq_true rfl⟩) dX9_mixDh_114 (fun v G' hp => ?_)
              obtain ⟨rfl, J1, L1, R1, rfl, d1, d2, d3, d4⟩ := hp
              have xO := isX.r121 xO d3
              have hu := isSt.r121 hu hu143 d3
              have d5 : ∀ i, i < 32 → J1 152 i = dhF (I (S + 1)) (fun j => byt (I (u + 1 + 5) j)) i := fun i hi => by rw [d1]; simp only [hi, if_true]; exact mpF_z _ _ (fun j hj => by first | exact hbE j hj | exact hbS (hot.symm.trans (bI_F c86)) j hj) i
              show hX z 0 0 (T, J1, L1, R1, A) [(9, .ref (A (u + 1 + 5))), (8, .ref (A (S + 1))), (7, .int (bI ot)), (6, .int (bI ow)), (5, .int (bI y)), (4, .int (bI x)), (0, .ref (A 109)), (1, .ref (A S)), (2, .ref (A u)), (3, .int (nI t))] 117 []
              refine x_aload_n C dX9_mixDh_117 6 rfl rfl ?_
              refine x_getrN C fl_X9_21 (xO.1 109 _ rfl).1 rfl (xO.2.1 109 1 _ rfl) dX9_mixDh_118 ?_
              refine x_aload_n C dX9_mixDh_121 8 rfl rfl ?_
              refine x_getrN C fl_X9_119 hu.1 rfl (hu.2.2 0 (by decide)).1 dX9_mixDh_122 ?_
              refine x_aload_n C dX9_mixDh_125 6 rfl rfl ?_
              refine x_getrN C fl_X9_50 (xO.1 109 _ rfl).1 rfl (xO.2.1 109 6 _ rfl) dX9_mixDh_126 ?_
              refine x_bipush (v := nI 32) C dX9_mixDh_129 (by decide +kernel) ?_
              refine x_aload_n C dX9_mixDh_131 8 rfl rfl ?_
              refine x_getrN C fl_X9_119 hu.1 rfl (hu.2.2 0 (by decide)).1 dX9_mixDh_132 ?_
              refine x_aload_n C dX9_mixDh_135 8 rfl rfl ?_
              refine x_getrN C fl_X9_208 hu.1 rfl (hu.2.2 2 (by decide)).1 dX9_mixDh_136 ?_
              refine x_callV C (ok_X2_makeKeys xO hsa (u + 1 + 0) 32 152 32 32 (u + 1 + 0) 32 (u + 1 + 2) 32 (d2.st (by decide) hst) (hu.2.2 0 (by decide)).2.1 (by decide) (by decide) (by omega) (xO.1 152 _ rfl).1 (by decide) (by decide) (by decide) (by decide) (hu.2.2 0 (by decide)).2.1 (by decide) (by decide) (hu.2.2 0 (by decide)).2.2 (by omega) (hu.2.2 2 (by decide)).2.1 (by decide) (by decide) (hu.2.2 2 (by decide)).2.2 (by omega) (by omega) (by omega)) mv_X2_makeKeys ml_X9_247 (xO.1 114 _ rfl).1 rfl rfl rfl (Nat.le_of_ble_eq_true rfl) (hrm (rm := { frames := 0, cells := 0, slots := 0, locals := 0 }) hZ ⟨Nat.le_of_ble_eq_true rfl, Nat.le_of_ble_eq_true rfl⟩) (hcs hZ ⟨Nat.le_of_ble_eq_true rfl, Nat.le_of_ble_eq_true rfl⟩) dX9_mixDh_139 (fun v G' hp => ?_)
              obtain ⟨rfl, J2, rfl, k1, k2, k3⟩ := hp
              show hX z 0 0 (T, J2, L1, R1, A) [(9, .ref (A (u + 1 + 5))), (8, .ref (A (S + 1))), (7, .int (bI ot)), (6, .int (bI ow)), (5, .int (bI y)), (4, .int (bI x)), (0, .ref (A 109)), (1, .ref (A S)), (2, .ref (A u)), (3, .int (nI t))] 142 []
              refine x_aload_n C dX9_mixDh_142 8 rfl rfl ?_
              refine x_iconst (v := nI 1) C dX9_mixDh_143 (by decide +kernel) ?_
              refine x_putzN C fl_X9_135 hu.1 hu.2.1 rfl (by first | exact Or.inl rfl | exact Or.inr rfl | assumption) dX9_mixDh_144 (fun I3 eI3 => ?_)
              refine x_aload_n C dX9_mixDh_147 8 rfl rfl ?_
              refine x_iconst (v := nI 0) C dX9_mixDh_148 (by decide +kernel) ?_
              refine x_putiN C fl_X9_138 hu.1 hu.2.1 rfl dX9_mixDh_149 (fun I4 eI4 => ?_)
              exact x_vret C E (Nat.le_of_ble_eq_true rfl) (Nat.le_of_ble_eq_true rfl) dX9_mixDh_152 (⟨rfl, _, L1, R1, rfl, fun i hi => by rw [eI4, va_up_other _ _ (by omega), eI3, va_up_other _ _ (by omega), k1 i hi, if_neg (by rw [← how, bI_F c68]; decide), if_pos (hot.symm.trans (bI_T c86)), d2 (u + 1 + 0) (by simp; omega), key1_cg (fun _ _ => rfl) (fun i hi => d5 i hi)], fun i hi => by rw [eI4, va_up_other _ _ (by omega), eI3, va_up_other _ _ (by omega), k2 i hi, if_neg (by rw [← how, bI_F c68]; decide), if_pos (hot.symm.trans (bI_T c86)), d2 (u + 1 + 0) (by simp; omega), key2_cg (fun _ _ => rfl) (fun i hi => d5 i hi)], by rw [eI4, va_up_same, eI3, va_up_same, k3 u (by simp; omega), d2 u (by simp; omega)], by rw [eI4, eI3]; exact (((d2.wk (by simp)).tr k3 (by simp)).up (by simp)).up (by simp), d3, d4⟩)
          · refine x_aload_n C dX9_mixDh_71 6 rfl rfl ?_
            refine x_getrN C fl_X9_232 hu.1 rfl (hu.2.2 4 (by decide)).1 dX9_mixDh_72 ?_
            refine x_goto (tgt := 82) C dX9_mixDh_75 (by decide) ?_
            refine x_astore (lv' := [(8, .ref (A (u + 1 + 4))), (7, .int (bI ot)), (6, .int (bI ow)), (5, .int (bI y)), (4, .int (bI x)), (0, .ref (A 109)), (1, .ref (A S)), (2, .ref (A u)), (3, .int (nI t))]) C dX9_mixDh_82 (Nat.lt_of_lt_of_eq (by decide) hN.symm) rfl ?_
            refine x_iload C dX9_mixDh_84 1 rfl ?_
            refine x_if_eq (tgt := 96) C dX9_mixDh_86 (by decide) (fun c86 => ?_) (fun c86 => ?_)
            · refine x_aload_n C dX9_mixDh_96 7 rfl rfl ?_
              refine x_getrN C fl_X9_126 hu.1 rfl (hu.2.2 6 (by decide)).1 dX9_mixDh_97 ?_
              refine x_astore (lv' := [(9, .ref (A (u + 1 + 6))), (8, .ref (A (u + 1 + 4))), (7, .int (bI ot)), (6, .int (bI ow)), (5, .int (bI y)), (4, .int (bI x)), (0, .ref (A 109)), (1, .ref (A S)), (2, .ref (A u)), (3, .int (nI t))]) C dX9_mixDh_100 (Nat.lt_of_lt_of_eq (by decide) hN.symm) rfl ?_
              refine x_aload_n C dX9_mixDh_102 6 rfl rfl ?_
              refine x_getrN C fl_X9_28 (xO.1 109 _ rfl).1 rfl (xO.2.1 109 2 _ rfl) dX9_mixDh_103 ?_
              refine x_aload C dX9_mixDh_106 1 rfl ?_
              refine x_aload C dX9_mixDh_108 0 rfl ?_
              refine x_aload_n C dX9_mixDh_110 6 rfl rfl ?_
              refine x_getrN C fl_X9_50 (xO.1 109 _ rfl).1 rfl (xO.2.1 109 6 _ rfl) dX9_mixDh_111 ?_
              refine x_callV C (ok_X1_multiplyPoint xO hsa cp cq cr cs h4 (u + 1 + 4) 32 (u + 1 + 6) 32 152 32 (fun j => byt (I (u + 1 + 6) j)) (hu.2.2 4 (by decide)).2.1 (by decide) (by decide) (hu.2.2 6 (by decide)).2.1 (by decide) (by decide) (by omega) (xO.1 152 _ rfl).1 (xO.1 152 _ rfl).2 (by decide) (by decide) (by decide) (fun j hj => ⟨nI_byt _, by first | exact hbE j hj | exact hbS (hot.symm.trans (bI_F c86)) j hj⟩)) mv_X1_multiplyPoint ml_X9_79 (xO.1 121 _ rfl).1 rfl rfl rfl (Nat.le_of_ble_eq_true rfl) (hrm (rm := { frames := 0, cells := 0, slots := 0, locals := 0 }) hZ ⟨Nat.le_of_ble_eq_true rfl, Nat.le_of_ble_eq_true rfl⟩) (hcs hZ ⟨Nat.le_of_ble_eq_true rfl, Nat.le_of_ble_eq_true rfl⟩) dX9_mixDh_114 (fun v G' hp => ?_)
              obtain ⟨rfl, J1, L1, R1, rfl, d1, d2, d3, d4⟩ := hp
              have xO := isX.r121 xO d3
              have hu := isSt.r121 hu hu143 d3
              have d5 : ∀ i, i < 32 → J1 152 i = dhF (I (u + 1 + 4)) (fun j => byt (I (u + 1 + 6) j)) i := fun i hi => by rw [d1]; simp only [hi, if_true]; exact mpF_z _ _ (fun j hj => by first | exact hbE j hj | exact hbS (hot.symm.trans (bI_F c86)) j hj) i
              show hX z 0 0 (T, J1, L1, R1, A) [(9, .ref (A (u + 1 + 6))), (8, .ref (A (u + 1 + 4))), (7, .int (bI ot)), (6, .int (bI ow)), (5, .int (bI y)), (4, .int (bI x)), (0, .ref (A 109)), (1, .ref (A S)), (2, .ref (A u)), (3, .int (nI t))] 117 []
              refine x_aload_n C dX9_mixDh_117 6 rfl rfl ?_
              refine x_getrN C fl_X9_21 (xO.1 109 _ rfl).1 rfl (xO.2.1 109 1 _ rfl) dX9_mixDh_118 ?_
              refine x_aload_n C dX9_mixDh_121 8 rfl rfl ?_
              refine x_getrN C fl_X9_119 hu.1 rfl (hu.2.2 0 (by decide)).1 dX9_mixDh_122 ?_
              refine x_aload_n C dX9_mixDh_125 6 rfl rfl ?_
              refine x_getrN C fl_X9_50 (xO.1 109 _ rfl).1 rfl (xO.2.1 109 6 _ rfl) dX9_mixDh_126 ?_
              refine x_bipush (v := nI 32) C dX9_mixDh_129 (by decide +kernel) ?_
              refine x_aload_n C dX9_mixDh_131 8 rfl rfl ?_
              refine x_getrN C fl_X9_119 hu.1 rfl (hu.2.2 0 (by decide)).1 dX9_mixDh_132 ?_
              refine x_aload_n C dX9_mixDh_135 8 rfl rfl ?_
              refine x_getrN C fl_X9_208 hu.1 rfl (hu.2.2 2 (by decide)).1 dX9_mixDh_136 ?_
              refine x_callV C (ok_X2_makeKeys xO hsa (u + 1 + 0) 32 152 32 32 (u + 1 + 0) 32 (u + 1 + 2) 32 (d2.st (by decide) hst) (hu.2.2 0 (by decide)).2.1 (by decide) (by decide) (by omega) (xO.1 152 _ rfl).1 (by decide) (by decide) (by decide) (by decide) (hu.2.2 0 (by decide)).2.1 (by decide) (by decide) (hu.2.2 0 (by decide)).2.2 (by omega) (hu.2.2 2 (by decide)).2.1 (by decide) (by decide) (hu.2.2 2 (by decide)).2.2 (by omega) (by omega) (by omega)) mv_X2_makeKeys ml_X9_247 (xO.1 114 _ rfl).1 rfl rfl rfl (Nat.le_of_ble_eq_true rfl) (hrm (rm := { frames := 0, cells := 0, slots := 0, locals := 0 }) hZ ⟨Nat.le_of_ble_eq_true rfl, Nat.le_of_ble_eq_true rfl⟩) (hcs hZ ⟨Nat.le_of_ble_eq_true rfl, Nat.le_of_ble_eq_true rfl⟩) dX9_mixDh_139 (fun v G' hp => ?_)
              obtain ⟨rfl, J2, rfl, k1, k2, k3⟩ := hp
              show hX z 0 0 (T, J2, L1, R1, A) [(9, .ref (A (u + 1 + 6))), (8, .ref (A (u + 1 + 4))), (7, .int (bI ot)), (6, .int (bI ow)), (5, .int (bI y)), (4, .int (bI x)), (0, .ref (A 109)), (1, .ref (A S)), (2, .ref (A u)), (3, .int (nI t))] 142 []
              refine x_aload_n C dX9_mixDh_142 8 rfl rfl ?_
              refine x_iconst (v := nI 1) C dX9_mixDh_143 (by decide +kernel) ?_
              refine x_putzN C fl_X9_135 hu.1 hu.2.1 rfl (by first | exact Or.inl rfl | exact Or.inr rfl | assumption) dX9_mixDh_144 (fun I5 eI5 => ?_)
              refine x_aload_n C dX9_mixDh_147 8 rfl rfl ?_
              refine x_iconst (v := nI 0) C dX9_mixDh_148 (by decide +kernel) ?_
              refine x_putiN C fl_X9_138 hu.1 hu.2.1 rfl dX9_mixDh_149 (fun I6 eI6 => ?_)
              exact x_vret C E (Nat.le_of_ble_eq_true rfl) (Nat.le_of_ble_eq_true rfl) dX9_mixDh_152 (⟨rfl, _, L1, R1, rfl, fun i hi => by rw [eI6, va_up_other _ _ (by omega), eI5, va_up_other _ _ (by omega), k1 i hi, if_pos (how.symm.trans (bI_T c68)), if_neg (by rw [← hot, bI_F c86]; decide), d2 (u + 1 + 0) (by simp; omega), key1_cg (fun _ _ => rfl) (fun i hi => d5 i hi)], fun i hi => by rw [eI6, va_up_other _ _ (by omega), eI5, va_up_other _ _ (by omega), k2 i hi, if_pos (how.symm.trans (bI_T c68)), if_neg (by rw [← hot, bI_F c86]; decide), d2 (u + 1 + 0) (by simp; omega), key2_cg (fun _ _ => rfl) (fun i hi => d5 i hi)], by rw [eI6, va_up_same, eI5, va_up_same, k3 u (by simp; omega), d2 u (by simp; omega)], by rw [eI6, eI5]; exact (((d2.wk (by simp)).tr k3 (by simp)).up (by simp)).up (by simp), d3, d4⟩)
            · refine x_aload_n C dX9_mixDh_89 7 rfl rfl ?_
              refine x_getrN C fl_X9_235 hu.1 rfl (hu.2.2 5 (by decide)).1 dX9_mixDh_90 ?_
              refine x_goto (tgt := 100) C dX9_mixDh_93 (by decide) ?_
              refine x_astore (lv' := [(9, .ref (A (u + 1 + 5))), (8, .ref (A (u + 1 + 4))), (7, .int (bI ot)), (6, .int (bI ow)), (5, .int (bI y)), (4, .int (bI x)), (0, .ref (A 109)), (1, .ref (A S)), (2, .ref (A u)), (3, .int (nI t))]) C dX9_mixDh_100 (Nat.lt_of_lt_of_eq (by decide) hN.symm) rfl ?_
              refine x_aload_n C dX9_mixDh_102 6 rfl rfl ?_
              refine x_getrN C fl_X9_28 (xO.1 109 _ rfl).1 rfl (xO.2.1 109 2 _ rfl) dX9_mixDh_103 ?_
              refine x_aload C dX9_mixDh_106 1 rfl ?_
              refine x_aload C dX9_mixDh_108 0 rfl ?_
              refine x_aload_n C dX9_mixDh_110 6 rfl rfl ?_
              refine x_getrN C fl_X9_50 (xO.1 109 _ rfl).1 rfl (xO.2.1 109 6 _ rfl) dX9_mixDh_111 ?_
              refine x_callV C (ok_X1_multiplyPoint xO hsa cp cq cr cs h4 (u + 1 + 4) 32 (u + 1 + 5) 32 152 32 (fun j => byt (I (u + 1 + 5) j)) (hu.2.2 4 (by decide)).2.1 (by decide) (by decide) (hu.2.2 5 (by decide)).2.1 (by decide) (by decide) (by omega) (xO.1 152 _ rfl).1 (xO.1 152 _ rfl).2 (by decide) (by decide) (by decide) (fun j hj => ⟨nI_byt _, by first | exact hbE j hj | exact hbS (hot.symm.trans (bI_F c86)) j hj⟩)) mv_X1_multiplyPoint ml_X9_79 (xO.1 121 _ rfl).1 rfl rfl rfl (Nat.le_of_ble_eq_true rfl) (hrm (rm := { frames := 0, cells := 0, slots := 0, locals := 0 }) hZ ⟨Nat.le_of_ble_eq_true rfl, Nat.le_of_ble_eq_true rfl⟩) (hcs hZ ⟨Nat.le_of_ble_eq_true rfl, Nat.le_of_ble_eq_true rfl⟩) dX9_mixDh_114 (fun v G' hp => ?_)
              obtain ⟨rfl, J1, L1, R1, rfl, d1, d2, d3, d4⟩ := hp
              have xO := isX.r121 xO d3
              have hu := isSt.r121 hu hu143 d3
              have d5 : ∀ i, i < 32 → J1 152 i = dhF (I (u + 1 + 4)) (fun j => byt (I (u + 1 + 5) j)) i := fun i hi => by rw [d1]; simp only [hi, if_true]; exact mpF_z _ _ (fun j hj => by first | exact hbE j hj | exact hbS (hot.symm.trans (bI_F c86)) j hj) i
              show hX z 0 0 (T, J1, L1, R1, A) [(9, .ref (A (u + 1 + 5))), (8, .ref (A (u + 1 + 4))), (7, .int (bI ot)), (6, .int (bI ow)), (5, .int (bI y)), (4, .int (bI x)), (0, .ref (A 109)), (1, .ref (A S)), (2, .ref (A u)), (3, .int (nI t))] 117 []
              refine x_aload_n C dX9_mixDh_117 6 rfl rfl ?_
              refine x_getrN C fl_X9_21 (xO.1 109 _ rfl).1 rfl (xO.2.1 109 1 _ rfl) dX9_mixDh_118 ?_
              refine x_aload_n C dX9_mixDh_121 8 rfl rfl ?_
              refine x_getrN C fl_X9_119 hu.1 rfl (hu.2.2 0 (by decide)).1 dX9_mixDh_122 ?_
              refine x_aload_n C dX9_mixDh_125 6 rfl rfl ?_
              refine x_getrN C fl_X9_50 (xO.1 109 _ rfl).1 rfl (xO.2.1 109 6 _ rfl) dX9_mixDh_126 ?_
              refine x_bipush (v := nI 32) C dX9_mixDh_129 (by decide +kernel) ?_
              refine x_aload_n C dX9_mixDh_131 8 rfl rfl ?_
              refine x_getrN C fl_X9_119 hu.1 rfl (hu.2.2 0 (by decide)).1 dX9_mixDh_132 ?_
              refine x_aload_n C dX9_mixDh_135 8 rfl rfl ?_
              refine x_getrN C fl_X9_208 hu.1 rfl (hu.2.2 2 (by decide)).1 dX9_mixDh_136 ?_
              refine x_callV C (ok_X2_makeKeys xO hsa (u + 1 + 0) 32 152 32 32 (u + 1 + 0) 32 (u + 1 + 2) 32 (d2.st (by decide) hst) (hu.2.2 0 (by decide)).2.1 (by decide) (by decide) (by omega) (xO.1 152 _ rfl).1 (by decide) (by decide) (by decide) (by decide) (hu.2.2 0 (by decide)).2.1 (by decide) (by decide) (hu.2.2 0 (by decide)).2.2 (by omega) (hu.2.2 2 (by decide)).2.1 (by decide) (by decide) (hu.2.2 2 (by decide)).2.2 (by omega) (by omega) (by omega)) mv_X2_makeKeys ml_X9_247 (xO.1 114 _ rfl).1 rfl rfl rfl (Nat.le_of_ble_eq_true rfl) (hrm (rm := { frames := 0, cells := 0, slots := 0, locals := 0 }) hZ ⟨Nat.le_of_ble_eq_true rfl, Nat.le_of_ble_eq_true rfl⟩) (hcs hZ ⟨Nat.le_of_ble_eq_true rfl, Nat.le_of_ble_eq_true rfl⟩) dX9_mixDh_139 (fun v G' hp => ?_)
              obtain ⟨rfl, J2, rfl, k1, k2, k3⟩ := hp
              show hX z 0 0 (T, J2, L1, R1, A) [(9, .ref (A (u + 1 + 5))), (8, .ref (A (u + 1 + 4))), (7, .int (bI ot)), (6, .int (bI ow)), (5, .int (bI y)), (4, .int (bI x)), (0, .ref (A 109)), (1, .ref (A S)), (2, .ref (A u)), (3, .int (nI t))] 142 []
              refine x_aload_n C dX9_mixDh_142 8 rfl rfl ?_
              refine x_iconst (v := nI 1) C dX9_mixDh_143 (by decide +kernel) ?_
              refine x_putzN C fl_X9_135 hu.1 hu.2.1 rfl (by first | exact Or.inl rfl | exact Or.inr rfl | assumption) dX9_mixDh_144 (fun I7 eI7 => ?_)
              refine x_aload_n C dX9_mixDh_147 8 rfl rfl ?_
              refine x_iconst (v := nI 0) C dX9_mixDh_148 (by decide +kernel) ?_
              refine x_putiN C fl_X9_138 hu.1 hu.2.1 rfl dX9_mixDh_149 (fun I8 eI8 => ?_)
              exact x_vret C E (Nat.le_of_ble_eq_true rfl) (Nat.le_of_ble_eq_true rfl) dX9_mixDh_152 (⟨rfl, _, L1, R1, rfl, fun i hi => by rw [eI8, va_up_other _ _ (by omega), eI7, va_up_other _ _ (by omega), k1 i hi, if_pos (how.symm.trans (bI_T c68)), if_pos (hot.symm.trans (bI_T c86)), d2 (u + 1 + 0) (by simp; omega), key1_cg (fun _ _ => rfl) (fun i hi => d5 i hi)], fun i hi => by rw [eI8, va_up_other _ _ (by omega), eI7, va_up_other _ _ (by omega), k2 i hi, if_pos (how.symm.trans (bI_T c68)), if_pos (hot.symm.trans (bI_T c86)), d2 (u + 1 + 0) (by simp; omega), key2_cg (fun _ _ => rfl) (fun i hi => d5 i hi)], by rw [eI8, va_up_same, eI7, va_up_same, k3 u (by simp; omega), d2 u (by simp; omega)], by rw [eI8, eI7]; exact (((d2.wk (by simp)).tr k3 (by simp)).up (by simp)).up (by simp), d3, d4⟩)
        refine x_aload_n C dX9_mixDh_50 4 rfl rfl ?_
        refine x_getiN C fl_X9_155 hSd.1.1 rfl dX9_mixDh_51 ?_
        refine x_eqi (y := nI ha) hha ?_
        refine x_if_neN (tgt := 62) C (by omega) dX9_mixDh_54 (by decide) (fun c54 => ?_) (fun c54 => ?_)
        · refine x_iload C dX9_mixDh_62 2 rfl ?_
          refine x_sub (lv' := _) [0, 1, 2, 3, 4, 5, 6] rfl ?_
          exact J64 x (by unfold xEb; first | (rw [if_pos (by omega), hy]; done) | (rw [if_neg (by omega), hx]; done))
        · refine x_iload C dX9_mixDh_57 1 rfl ?_
          refine x_goto (tgt := 64) C dX9_mixDh_59 (by decide) ?_
          refine x_sub (lv' := _) [0, 1, 2, 3, 4, 5, 6] rfl ?_
          exact J64 y (by unfold xEb; first | (rw [if_pos (by omega), hy]; done) | (rw [if_neg (by omega), hx]; done))
      refine x_aload_n C dX9_mixDh_34 3 rfl rfl ?_
      refine x_getiN C fl_X9_155 hSd.1.1 rfl dX9_mixDh_35 ?_
      refine x_eqi (y := nI ha) hha ?_
      refine x_if_neN (tgt := 46) C (by omega) dX9_mixDh_38 (by decide) (fun c38 => ?_) (fun c38 => ?_)
      · refine x_iload C dX9_mixDh_46 0 rfl ?_
        refine x_sub (lv' := _) [0, 1, 2, 3, 4, 5] rfl ?_
        exact J48 y (by unfold oEb; first | (rw [if_pos (by omega), hx]; done) | (rw [if_neg (by omega), hy]; done))
      · refine x_iload C dX9_mixDh_41 1 rfl ?_
        refine x_goto (tgt := 48) C dX9_mixDh_43 (by decide) ?_
        refine x_sub (lv' := _) [0, 1, 2, 3, 4, 5] rfl ?_
        exact J48 x (by unfold oEb; first | (rw [if_pos (by omega), hx]; done) | (rw [if_neg (by omega), hy]; done))
    refine x_iload_n C dX9_mixDh_17 4 rfl rfl ?_
    refine x_iconst (v := nI 2) C dX9_mixDh_18 (by decide +kernel) ?_
    refine x_icmp_eqN (tgt := 27) C (by omega) (by omega) dX9_mixDh_19 (by decide) (fun c19 => ?_) (fun c19 => ?_)
    · refine x_iconst (v := nI 1) C dX9_mixDh_27 (by decide +kernel) ?_
      refine x_goto (tgt := 32) C dX9_mixDh_28 (by decide) ?_
      refine x_sub (lv' := _) [0, 1, 2, 3, 4] rfl ?_
      exact J32 true (by first | (rw [decide_eq_true (by omega)]) | (rw [decide_eq_false (by omega)]))
    · refine x_iload_n C dX9_mixDh_22 4 rfl rfl ?_
      refine x_iconst (v := nI 4) C dX9_mixDh_23 (by decide +kernel) ?_
      refine x_icmp_neN (tgt := 31) C (by omega) (by omega) dX9_mixDh_24 (by decide) (fun c24 => ?_) (fun c24 => ?_)
      · refine x_iconst (v := nI 0) C dX9_mixDh_31 (by decide +kernel) ?_
        refine x_sub (lv' := _) [0, 1, 2, 3, 4] rfl ?_
        exact J32 false (by first | (rw [decide_eq_true (by omega)]) | (rw [decide_eq_false (by omega)]))
      · refine x_iconst (v := nI 1) C dX9_mixDh_27 (by decide +kernel) ?_
        refine x_goto (tgt := 32) C dX9_mixDh_28 (by decide) ?_
        refine x_sub (lv' := _) [0, 1, 2, 3, 4] rfl ?_
        exact J32 true (by first | (rw [decide_eq_true (by omega)]) | (rw [decide_eq_false (by omega)]))
  refine x_iload_n C dX9_mixDh_0 3 rfl rfl ?_
  refine x_iconst (v := nI 2) C dX9_mixDh_1 (by decide +kernel) ?_
  refine x_icmp_eqN (tgt := 10) C (by omega) (by omega) dX9_mixDh_2 (by decide) (fun c2 => ?_) (fun c2 => ?_)
  · refine x_iconst (v := nI 1) C dX9_mixDh_10 (by decide +kernel) ?_
    refine x_goto (tgt := 15) C dX9_mixDh_11 (by decide) ?_
    refine x_sub (lv' := _) [0, 1, 2, 3] rfl ?_
    exact J15 true (by first | (rw [decide_eq_true (by omega)]) | (rw [decide_eq_false (by omega)]))
  · refine x_iload_n C dX9_mixDh_5 3 rfl rfl ?_
    refine x_iconst (v := nI 3) C dX9_mixDh_6 (by decide +kernel) ?_
    refine x_icmp_neN (tgt := 14) C (by omega) (by omega) dX9_mixDh_7 (by decide) (fun c7 => ?_) (fun c7 => ?_)
    · refine x_iconst (v := nI 0) C dX9_mixDh_14 (by decide +kernel) ?_
      refine x_sub (lv' := _) [0, 1, 2, 3] rfl ?_
      exact J15 false (by first | (rw [decide_eq_true (by omega)]) | (rw [decide_eq_false (by omega)]))
    · refine x_iconst (v := nI 1) C dX9_mixDh_10 (by decide +kernel) ?_
      refine x_goto (tgt := 15) C dX9_mixDh_11 (by decide) ?_
      refine x_sub (lv' := _) [0, 1, 2, 3] rfl ?_
      exact J15 true (by first | (rw [decide_eq_true (by omega)]) | (rw [decide_eq_false (by omega)]))

set_option maxHeartbeats 4000000 in
set_option maxRecDepth 100000 in
theorem ok_X9_endMessage {l : Launch} {a0 : Nat} {D : va_G} {sa : Nat → Nat} {T : Nat → Option hKd} {I : Nat → Nat → Int32} {L : Nat → Nat → Int64} {R : Nat → Nat → Option Nat} {A : Nat → Nat} (xO : isX T R A a0) (hsa : ∀ k, k < 5 → sa k = A (90 + k)) (S P : Nat) (hSd : isSd T R A a0 S P) (ha : Nat) (hha : I S 2 = nI ha) (ha2 : ha < 2) (hS3 : 300 ≤ S) (u : Nat) (hu : isSt T R A a0 u) (hu143 : 143 ≤ u) (hu2 : u = 143 ∨ u = S + 4) (hTP : T P = some (.inr 3)) (hP2 : P < 300) (hP1 : 200 ≤ P) (hst : stI I) (ms nx : Nat) (hms : I P 4 = nI ms) (hnx : I u 13 = nI nx) (h31 : ms < 2 ^ 30 ∧ nx < 2 ^ 30) : hM l a0 D sa yX9_endMessage cX9_endMessage 5 none { frames := 5, cells := 0, slots := 0, locals := 132 } [.ref (A 109), .ref (A S), .ref (A u)] (T, I, L, R, A) (fun r G' => r = none ∧ ∃ I', G' = (T, I', L, R, A) ∧ ((nx + 1 < ms ∧ I' = va_up I u (upd (I u) 13 (nI (nx + 1)))) ∨ (ms ≤ nx + 1 ∧ ((ha = 0 ∧ (∀ i, i < 32 → I' (u + 1 + 2) i = key1 (I (u + 1 + 0)) (fun _ => nI 0) 0 i) ∧ ∀ i, i < 32 → I' (u + 1 + 3) i = key2 (I (u + 1 + 0)) (fun _ => nI 0) 0 i) ∨ (ha = 1 ∧ (∀ i, i < 32 → I' (u + 1 + 2) i = key2 (I (u + 1 + 0)) (fun _ => nI 0) 0 i) ∧ ∀ i, i < 32 → I' (u + 1 + 3) i = key1 (I (u + 1 + 0)) (fun _ => nI 0) 0 i)) ∧ I' u = upd (upd (upd (upd (I u) 13 (nI (nx + 1))) 7 (nI 1)) 10 (nI 0)) 11 (nI 0) ∧ fx [115, 116, 117, 118, 119, 120, u, u + 1 + 2, u + 1 + 3] I I'))) := by
  refine hM.of (by decide +kernel) (Nat.le_of_ble_eq_true rfl) ?_
  intro z hl h0 hD hS hN C E
  subst hl; subst h0; subst hD; subst hS
  have C : hC z RX9 cX9_endMessage := C
  have hZ := E.2.2.2.1
  show hX z 0 0 (T, I, L, R, A) [(0, .ref (A 109)), (1, .ref (A S)), (2, .ref (A u))] 0 []
  refine x_aload_n C dX9_endMessage_0 2 rfl rfl ?_
  refine x_dup C dX9_endMessage_1 rfl ?_
  refine x_getiN C fl_X9_142 hu.1 rfl dX9_endMessage_2 ?_
  refine x_eqi (y := nI nx) hnx ?_
  refine x_iconst (v := nI 1) C dX9_endMessage_5 (by decide +kernel) ?_
  refine x_iaddN C dX9_endMessage_6 ?_
  refine x_putiN C fl_X9_142 hu.1 hu.2.1 rfl dX9_endMessage_7 (fun I1 eI1 => ?_)
  have f_I1 : fx [115, 116, 117, 118, 119, 120, u, u + 1 + 2, u + 1 + 3] I I1 := by rw [eI1]; exact (fx.rf).up (by simp)
  refine x_aload_n C dX9_endMessage_10 2 rfl rfl ?_
  refine x_getiN C fl_X9_142 hu.1 rfl dX9_endMessage_11 ?_
  refine x_eqi (y := nI (nx + 1)) (by rw [eI1, va_up_same]; simp [upd]) ?_
  refine x_aload_n C dX9_endMessage_14 1 rfl rfl ?_
  refine x_getrN C fl_X9_145 hSd.1.1 rfl hSd.2.1.1 dX9_endMessage_15 ?_
  refine x_getiN C fl_X9_251 hTP rfl dX9_endMessage_18 ?_
  refine x_eqi (y := nI ms) (by rw [eI1, va_up_other _ _ (by omega)]; exact hms) ?_
  refine x_icmp_geN (tgt := 25) C (by omega) (by omega) dX9_endMessage_21 (by decide) (fun c21 => ?_) (fun c21 => ?_)
  · refine x_aload_n C dX9_endMessage_25 1 rfl rfl ?_
    refine x_getiN C fl_X9_155 hSd.1.1 rfl dX9_endMessage_26 ?_
    refine x_eqi (y := nI ha) (by rw [eI1, va_up_other _ _ (by omega)]; exact hha) ?_
    refine x_if_neN (tgt := 39) C (by omega) dX9_endMessage_29 (by decide) (fun c29 => ?_) (fun c29 => ?_)
    · refine x_aload_n C dX9_endMessage_39 2 rfl rfl ?_
      refine x_getrN C fl_X9_217 hu.1 rfl (hu.2.2 3 (by decide)).1 dX9_endMessage_40 ?_
      refine x_astore_n (lv' := [(3, .ref (A (u + 1 + 3))), (0, .ref (A 109)), (1, .ref (A S)), (2, .ref (A u))]) C dX9_endMessage_43 rfl (Nat.lt_of_lt_of_eq (by decide) hN.symm) rfl ?_
      refine x_aload_n C dX9_endMessage_44 2 rfl rfl ?_
      refine x_getiN C fl_X9_155 hSd.1.1 rfl dX9_endMessage_45 ?_
      refine x_eqi (y := nI ha) (by rw [eI1, va_up_other _ _ (by omega)]; exact hha) ?_
      refine x_if_neN (tgt := 58) C (by omega) dX9_endMessage_48 (by decide) (fun c48 => ?_) (fun c48 => ?_)
      · refine x_aload_n C dX9_endMessage_58 3 rfl rfl ?_
        refine x_getrN C fl_X9_208 hu.1 rfl (hu.2.2 2 (by decide)).1 dX9_endMessage_59 ?_
        refine x_astore (lv' := [(4, .ref (A (u + 1 + 2))), (3, .ref (A (u + 1 + 3))), (0, .ref (A 109)), (1, .ref (A S)), (2, .ref (A u))]) C dX9_endMessage_62 (Nat.lt_of_lt_of_eq (by decide) hN.symm) rfl ?_
        refine x_aload_n C dX9_endMessage_64 2 rfl rfl ?_
        refine x_getrN C fl_X9_21 (xO.1 109 _ rfl).1 rfl (xO.2.1 109 1 _ rfl) dX9_endMessage_65 ?_
        refine x_aload_n C dX9_endMessage_68 4 rfl rfl ?_
        refine x_getrN C fl_X9_119 hu.1 rfl (hu.2.2 0 (by decide)).1 dX9_endMessage_69 ?_
        refine x_getsNN (k := 4) C (hsa 4 (by decide)) rfl sl_X9_211 dX9_endMessage_72 ?_
        refine x_iconst (v := nI 0) C dX9_endMessage_75 (by decide +kernel) ?_
        refine x_aload_n C dX9_endMessage_76 1 rfl rfl ?_
        refine x_aload C dX9_endMessage_77 0 rfl ?_
        refine x_callV C (ok_X2_makeKeys xO hsa (u + 1 + 0) 32 94 0 0 (u + 1 + 3) 32 (u + 1 + 2) 32 (f_I1.st (by intro k hk; simp; omega) hst) (hu.2.2 0 (by decide)).2.1 (by decide) (by decide) (by omega) (xO.2.2 94 _ rfl) (by decide) (by decide) (by decide) (by decide) (hu.2.2 3 (by decide)).2.1 (by decide) (by decide) (hu.2.2 3 (by decide)).2.2 (by omega) (hu.2.2 2 (by decide)).2.1 (by decide) (by decide) (hu.2.2 2 (by decide)).2.2 (by omega) (by omega) (by omega)) mv_X2_makeKeys ml_X9_247 (xO.1 114 _ rfl).1 rfl rfl rfl (Nat.le_of_ble_eq_true rfl) (hrm (rm := { frames := 0, cells := 0, slots := 0, locals := 0 }) hZ ⟨Nat.le_of_ble_eq_true rfl, Nat.le_of_ble_eq_true rfl⟩) (hcs hZ ⟨Nat.le_of_ble_eq_true rfl, Nat.le_of_ble_eq_true rfl⟩) dX9_endMessage_79 (fun v G' hp => ?_)
        obtain ⟨rfl, J2, rfl, k1, k2, k3⟩ := hp
        have f_J2 : fx [115, 116, 117, 118, 119, 120, u, u + 1 + 2, u + 1 + 3] I J2 := f_I1.tr k3 (by simp)
        have i0 : I1 (u + 1 + 0) = I (u + 1 + 0) := by rw [eI1, va_up_other _ _ (by omega)]
        have iu : J2 u = upd (I u) 13 (nI (nx + 1)) := by rw [k3 u (by simp; omega), eI1, va_up_same]
        show hX z 0 0 (T, J2, L, R, A) [(4, .ref (A (u + 1 + 2))), (3, .ref (A (u + 1 + 3))), (0, .ref (A 109)), (1, .ref (A S)), (2, .ref (A u))] 82 []
        refine x_aload_n C dX9_endMessage_82 4 rfl rfl ?_
        refine x_iconst (v := nI 1) C dX9_endMessage_83 (by decide +kernel) ?_
        refine x_putzN C fl_X9_135 hu.1 hu.2.1 rfl (by first | exact Or.inl rfl | exact Or.inr rfl | assumption) dX9_endMessage_84 (fun I2 eI2 => ?_)
        have f_I2 : fx [115, 116, 117, 118, 119, 120, u, u + 1 + 2, u + 1 + 3] I I2 := by rw [eI2]; exact (f_J2).up (by simp)
        refine x_aload_n C dX9_endMessage_87 4 rfl rfl ?_
        refine x_iconst (v := nI 0) C dX9_endMessage_88 (by decide +kernel) ?_
        refine x_putiN C fl_X9_138 hu.1 hu.2.1 rfl dX9_endMessage_89 (fun I3 eI3 => ?_)
        have f_I3 : fx [115, 116, 117, 118, 119, 120, u, u + 1 + 2, u + 1 + 3] I I3 := by rw [eI3]; exact (f_I2).up (by simp)
        refine x_aload_n C dX9_endMessage_92 4 rfl rfl ?_
        refine x_iconst (v := nI 0) C dX9_endMessage_93 (by decide +kernel) ?_
        refine x_putiN C fl_X9_220 hu.1 hu.2.1 rfl dX9_endMessage_94 (fun I4 eI4 => ?_)
        have f_I4 : fx [115, 116, 117, 118, 119, 120, u, u + 1 + 2, u + 1 + 3] I I4 := by rw [eI4]; exact (f_I3).up (by simp)
        exact x_vret C E (Nat.le_of_ble_eq_true rfl) (Nat.le_of_ble_eq_true rfl) dX9_endMessage_97 ((by first | (exfalso; omega) | exact ⟨rfl, _, rfl, Or.inr ⟨by omega, (by first | exact Or.inl ⟨by omega, fun i hi => by rw [eI4, va_up_other _ _ (by omega), eI3, va_up_other _ _ (by omega), eI2, va_up_other _ _ (by omega)]; rw [k1 i hi, i0]; exact congrFun (key1_cg (fun _ _ => rfl) (fun i hi => absurd hi (Nat.not_lt_zero i))) i, fun i hi => by rw [eI4, va_up_other _ _ (by omega), eI3, va_up_other _ _ (by omega), eI2, va_up_other _ _ (by omega)]; rw [k2 i hi, i0]; exact congrFun (key2_cg (fun _ _ => rfl) (fun i hi => absurd hi (Nat.not_lt_zero i))) i⟩ | exact Or.inr ⟨by omega, fun i hi => by rw [eI4, va_up_other _ _ (by omega), eI3, va_up_other _ _ (by omega), eI2, va_up_other _ _ (by omega)]; rw [k2 i hi, i0]; exact congrFun (key2_cg (fun _ _ => rfl) (fun i hi => absurd hi (Nat.not_lt_zero i))) i, fun i hi => by rw [eI4, va_up_other _ _ (by omega), eI3, va_up_other _ _ (by omega), eI2, va_up_other _ _ (by omega)]; rw [k1 i hi, i0]; exact congrFun (key1_cg (fun _ _ => rfl) (fun i hi => absurd hi (Nat.not_lt_zero i))) i⟩), by rw [eI4, va_up_same, eI3, va_up_same, eI2, va_up_same, iu], f_I4⟩⟩))
      · refine x_aload_n C dX9_endMessage_51 3 rfl rfl ?_
        refine x_getrN C fl_X9_217 hu.1 rfl (hu.2.2 3 (by decide)).1 dX9_endMessage_52 ?_
        refine x_goto (tgt := 62) C dX9_endMessage_55 (by decide) ?_
        refine x_astore (lv' := [(4, .ref (A (u + 1 + 3))), (3, .ref (A (u + 1 + 3))), (0, .ref (A 109)), (1, .ref (A S)), (2, .ref (A u))]) C dX9_endMessage_62 (Nat.lt_of_lt_of_eq (by decide) hN.symm) rfl ?_
        refine x_aload_n C dX9_endMessage_64 2 rfl rfl ?_
        refine x_getrN C fl_X9_21 (xO.1 109 _ rfl).1 rfl (xO.2.1 109 1 _ rfl) dX9_endMessage_65 ?_
        refine x_aload_n C dX9_endMessage_68 4 rfl rfl ?_
        refine x_getrN C fl_X9_119 hu.1 rfl (hu.2.2 0 (by decide)).1 dX9_endMessage_69 ?_
        refine x_getsNN (k := 4) C (hsa 4 (by decide)) rfl sl_X9_211 dX9_endMessage_72 ?_
        refine x_iconst (v := nI 0) C dX9_endMessage_75 (by decide +kernel) ?_
        refine x_aload_n C dX9_endMessage_76 1 rfl rfl ?_
        refine x_aload C dX9_endMessage_77 0 rfl ?_
        refine x_callV C (ok_X2_makeKeys xO hsa (u + 1 + 0) 32 94 0 0 (u + 1 + 3) 32 (u + 1 + 3) 32 (f_I1.st (by intro k hk; simp; omega) hst) (hu.2.2 0 (by decide)).2.1 (by decide) (by decide) (by omega) (xO.2.2 94 _ rfl) (by decide) (by decide) (by decide) (by decide) (hu.2.2 3 (by decide)).2.1 (by decide) (by decide) (hu.2.2 3 (by decide)).2.2 (by omega) (hu.2.2 3 (by decide)).2.1 (by decide) (by decide) (hu.2.2 3 (by decide)).2.2 (by omega) (by omega) (by omega)) mv_X2_makeKeys ml_X9_247 (xO.1 114 _ rfl).1 rfl rfl rfl (Nat.le_of_ble_eq_true rfl) (hrm (rm := { frames := 0, cells := 0, slots := 0, locals := 0 }) hZ ⟨Nat.le_of_ble_eq_true rfl, Nat.le_of_ble_eq_true rfl⟩) (hcs hZ ⟨Nat.le_of_ble_eq_true rfl, Nat.le_of_ble_eq_true rfl⟩) dX9_endMessage_79 (fun v G' hp => ?_)
        obtain ⟨rfl, J2, rfl, k1, k2, k3⟩ := hp
        have f_J2 : fx [115, 116, 117, 118, 119, 120, u, u + 1 + 2, u + 1 + 3] I J2 := f_I1.tr k3 (by simp)
        have i0 : I1 (u + 1 + 0) = I (u + 1 + 0) := by rw [eI1, va_up_other _ _ (by omega)]
        have iu : J2 u = upd (I u) 13 (nI (nx + 1)) := by rw [k3 u (by simp; omega), eI1, va_up_same]
        show hX z 0 0 (T, J2, L, R, A) [(4, .ref (A (u + 1 + 3))), (3, .ref (A (u + 1 + 3))), (0, .ref (A 109)), (1, .ref (A S)), (2, .ref (A u))] 82 []
        refine x_aload_n C dX9_endMessage_82 4 rfl rfl ?_
        refine x_iconst (v := nI 1) C dX9_endMessage_83 (by decide +kernel) ?_
        refine x_putzN C fl_X9_135 hu.1 hu.2.1 rfl (by first | exact Or.inl rfl | exact Or.inr rfl | assumption) dX9_endMessage_84 (fun I5 eI5 => ?_)
        have f_I5 : fx [115, 116, 117, 118, 119, 120, u, u + 1 + 2, u + 1 + 3] I I5 := by rw [eI5]; exact (f_J2).up (by simp)
        refine x_aload_n C dX9_endMessage_87 4 rfl rfl ?_
        refine x_iconst (v := nI 0) C dX9_endMessage_88 (by decide +kernel) ?_
        refine x_putiN C fl_X9_138 hu.1 hu.2.1 rfl dX9_endMessage_89 (fun I6 eI6 => ?_)
        have f_I6 : fx [115, 116, 117, 118, 119, 120, u, u + 1 + 2, u + 1 + 3] I I6 := by rw [eI6]; exact (f_I5).up (by simp)
        refine x_aload_n C dX9_endMessage_92 4 rfl rfl ?_
        refine x_iconst (v := nI 0) C dX9_endMessage_93 (by decide +kernel) ?_
        refine x_putiN C fl_X9_220 hu.1 hu.2.1 rfl dX9_endMessage_94 (fun I7 eI7 => ?_)
        have f_I7 : fx [115, 116, 117, 118, 119, 120, u, u + 1 + 2, u + 1 + 3] I I7 := by rw [eI7]; exact (f_I6).up (by simp)
        exact x_vret C E (Nat.le_of_ble_eq_true rfl) (Nat.le_of_ble_eq_true rfl) dX9_endMessage_97 ((by first | (exfalso; omega) | exact ⟨rfl, _, rfl, Or.inr ⟨by omega, (by first | exact Or.inl ⟨by omega, fun i hi => by rw [eI7, va_up_other _ _ (by omega), eI6, va_up_other _ _ (by omega), eI5, va_up_other _ _ (by omega)]; rw [k1 i hi, i0]; exact congrFun (key1_cg (fun _ _ => rfl) (fun i hi => absurd hi (Nat.not_lt_zero i))) i, fun i hi => by rw [eI7, va_up_other _ _ (by omega), eI6, va_up_other _ _ (by omega), eI5, va_up_other _ _ (by omega)]; rw [k2 i hi, i0]; exact congrFun (key2_cg (fun _ _ => rfl) (fun i hi => absurd hi (Nat.not_lt_zero i))) i⟩ | exact Or.inr ⟨by omega, fun i hi => by rw [eI7, va_up_other _ _ (by omega), eI6, va_up_other _ _ (by omega), eI5, va_up_other _ _ (by omega)]; rw [k2 i hi, i0]; exact congrFun (key2_cg (fun _ _ => rfl) (fun i hi => absurd hi (Nat.not_lt_zero i))) i, fun i hi => by rw [eI7, va_up_other _ _ (by omega), eI6, va_up_other _ _ (by omega), eI5, va_up_other _ _ (by omega)]; rw [k1 i hi, i0]; exact congrFun (key1_cg (fun _ _ => rfl) (fun i hi => absurd hi (Nat.not_lt_zero i))) i⟩), by rw [eI7, va_up_same, eI6, va_up_same, eI5, va_up_same, iu], f_I7⟩⟩))
    · refine x_aload_n C dX9_endMessage_32 2 rfl rfl ?_
      refine x_getrN C fl_X9_208 hu.1 rfl (hu.2.2 2 (by decide)).1 dX9_endMessage_33 ?_
      refine x_goto (tgt := 43) C dX9_endMessage_36 (by decide) ?_
      refine x_astore_n (lv' := [(3, .ref (A (u + 1 + 2))), (0, .ref (A 109)), (1, .ref (A S)), (2, .ref (A u))]) C dX9_endMessage_43 rfl (Nat.lt_of_lt_of_eq (by decide) hN.symm) rfl ?_
      refine x_aload_n C dX9_endMessage_44 2 rfl rfl ?_
      refine x_getiN C fl_X9_155 hSd.1.1 rfl dX9_endMessage_45 ?_
      refine x_eqi (y := nI ha) (by rw [eI1, va_up_other _ _ (by omega)]; exact hha) ?_
      refine x_if_neN (tgt := 58) C (by omega) dX9_endMessage_48 (by decide) (fun c48 => ?_) (fun c48 => ?_)
      · refine x_aload_n C dX9_endMessage_58 3 rfl rfl ?_
        refine x_getrN C fl_X9_208 hu.1 rfl (hu.2.2 2 (by decide)).1 dX9_endMessage_59 ?_
        refine x_astore (lv' := [(4, .ref (A (u + 1 + 2))), (3, .ref (A (u + 1 + 2))), (0, .ref (A 109)), (1, .ref (A S)), (2, .ref (A u))]) C dX9_endMessage_62 (Nat.lt_of_lt_of_eq (by decide) hN.symm) rfl ?_
        refine x_aload_n C dX9_endMessage_64 2 rfl rfl ?_
        refine x_getrN C fl_X9_21 (xO.1 109 _ rfl).1 rfl (xO.2.1 109 1 _ rfl) dX9_endMessage_65 ?_
        refine x_aload_n C dX9_endMessage_68 4 rfl rfl ?_
        refine x_getrN C fl_X9_119 hu.1 rfl (hu.2.2 0 (by decide)).1 dX9_endMessage_69 ?_
        refine x_getsNN (k := 4) C (hsa 4 (by decide)) rfl sl_X9_211 dX9_endMessage_72 ?_
        refine x_iconst (v := nI 0) C dX9_endMessage_75 (by decide +kernel) ?_
        refine x_aload_n C dX9_endMessage_76 1 rfl rfl ?_
        refine x_aload C dX9_endMessage_77 0 rfl ?_
        refine x_callV C (ok_X2_makeKeys xO hsa (u + 1 + 0) 32 94 0 0 (u + 1 + 2) 32 (u + 1 + 2) 32 (f_I1.st (by intro k hk; simp; omega) hst) (hu.2.2 0 (by decide)).2.1 (by decide) (by decide) (by omega) (xO.2.2 94 _ rfl) (by decide) (by decide) (by decide) (by decide) (hu.2.2 2 (by decide)).2.1 (by decide) (by decide) (hu.2.2 2 (by decide)).2.2 (by omega) (hu.2.2 2 (by decide)).2.1 (by decide) (by decide) (hu.2.2 2 (by decide)).2.2 (by omega) (by omega) (by omega)) mv_X2_makeKeys ml_X9_247 (xO.1 114 _ rfl).1 rfl rfl rfl (Nat.le_of_ble_eq_true rfl) (hrm (rm := { frames := 0, cells := 0, slots := 0, locals := 0 }) hZ ⟨Nat.le_of_ble_eq_true rfl, Nat.le_of_ble_eq_true rfl⟩) (hcs hZ ⟨Nat.le_of_ble_eq_true rfl, Nat.le_of_ble_eq_true rfl⟩) dX9_endMessage_79 (fun v G' hp => ?_)
        obtain ⟨rfl, J2, rfl, k1, k2, k3⟩ := hp
        have f_J2 : fx [115, 116, 117, 118, 119, 120, u, u + 1 + 2, u + 1 + 3] I J2 := f_I1.tr k3 (by simp)
        have i0 : I1 (u + 1 + 0) = I (u + 1 + 0) := by rw [eI1, va_up_other _ _ (by omega)]
        have iu : J2 u = upd (I u) 13 (nI (nx + 1)) := by rw [k3 u (by simp; omega), eI1, va_up_same]
        show hX z 0 0 (T, J2, L, R, A) [(4, .ref (A (u + 1 + 2))), (3, .ref (A (u + 1 + 2))), (0, .ref (A 109)), (1, .ref (A S)), (2, .ref (A u))] 82 []
        refine x_aload_n C dX9_endMessage_82 4 rfl rfl ?_
        refine x_iconst (v := nI 1) C dX9_endMessage_83 (by decide +kernel) ?_
        refine x_putzN C fl_X9_135 hu.1 hu.2.1 rfl (by first | exact Or.inl rfl | exact Or.inr rfl | assumption) dX9_endMessage_84 (fun I8 eI8 => ?_)
        have f_I8 : fx [115, 116, 117, 118, 119, 120, u, u + 1 + 2, u + 1 + 3] I I8 := by rw [eI8]; exact (f_J2).up (by simp)
        refine x_aload_n C dX9_endMessage_87 4 rfl rfl ?_
        refine x_iconst (v := nI 0) C dX9_endMessage_88 (by decide +kernel) ?_
        refine x_putiN C fl_X9_138 hu.1 hu.2.1 rfl dX9_endMessage_89 (fun I9 eI9 => ?_)
        have f_I9 : fx [115, 116, 117, 118, 119, 120, u, u + 1 + 2, u + 1 + 3] I I9 := by rw [eI9]; exact (f_I8).up (by simp)
        refine x_aload_n C dX9_endMessage_92 4 rfl rfl ?_
        refine x_iconst (v := nI 0) C dX9_endMessage_93 (by decide +kernel) ?_
        refine x_putiN C fl_X9_220 hu.1 hu.2.1 rfl dX9_endMessage_94 (fun I10 eI10 => ?_)
        have f_I10 : fx [115, 116, 117, 118, 119, 120, u, u + 1 + 2, u + 1 + 3] I I10 := by rw [eI10]; exact (f_I9).up (by simp)
        exact x_vret C E (Nat.le_of_ble_eq_true rfl) (Nat.le_of_ble_eq_true rfl) dX9_endMessage_97 ((by first | (exfalso; omega) | exact ⟨rfl, _, rfl, Or.inr ⟨by omega, (by first | exact Or.inl ⟨by omega, fun i hi => by rw [eI10, va_up_other _ _ (by omega), eI9, va_up_other _ _ (by omega), eI8, va_up_other _ _ (by omega)]; rw [k1 i hi, i0]; exact congrFun (key1_cg (fun _ _ => rfl) (fun i hi => absurd hi (Nat.not_lt_zero i))) i, fun i hi => by rw [eI10, va_up_other _ _ (by omega), eI9, va_up_other _ _ (by omega), eI8, va_up_other _ _ (by omega)]; rw [k2 i hi, i0]; exact congrFun (key2_cg (fun _ _ => rfl) (fun i hi => absurd hi (Nat.not_lt_zero i))) i⟩ | exact Or.inr ⟨by omega, fun i hi => by rw [eI10, va_up_other _ _ (by omega), eI9, va_up_other _ _ (by omega), eI8, va_up_other _ _ (by omega)]; rw [k2 i hi, i0]; exact congrFun (key2_cg (fun _ _ => rfl) (fun i hi => absurd hi (Nat.not_lt_zero i))) i, fun i hi => by rw [eI10, va_up_other _ _ (by omega), eI9, va_up_other _ _ (by omega), eI8, va_up_other _ _ (by omega)]; rw [k1 i hi, i0]; exact congrFun (key1_cg (fun _ _ => rfl) (fun i hi => absurd hi (Nat.not_lt_zero i))) i⟩), by rw [eI10, va_up_same, eI9, va_up_same, eI8, va_up_same, iu], f_I10⟩⟩))
      · refine x_aload_n C dX9_endMessage_51 3 rfl rfl ?_
        refine x_getrN C fl_X9_217 hu.1 rfl (hu.2.2 3 (by decide)).1 dX9_endMessage_52 ?_
        refine x_goto (tgt := 62) C dX9_endMessage_55 (by decide) ?_
        refine x_astore (lv' := [(4, .ref (A (u + 1 + 3))), (3, .ref (A (u + 1 + 2))), (0, .ref (A 109)), (1, .ref (A S)), (2, .ref (A u))]) C dX9_endMessage_62 (Nat.lt_of_lt_of_eq (by decide) hN.symm) rfl ?_
        refine x_aload_n C dX9_endMessage_64 2 rfl rfl ?_
        refine x_getrN C fl_X9_21 (xO.1 109 _ rfl).1 rfl (xO.2.1 109 1 _ rfl) dX9_endMessage_65 ?_
        refine x_aload_n C dX9_endMessage_68 4 rfl rfl ?_
        refine x_getrN C fl_X9_119 hu.1 rfl (hu.2.2 0 (by decide)).1 dX9_endMessage_69 ?_
        refine x_getsNN (k := 4) C (hsa 4 (by decide)) rfl sl_X9_211 dX9_endMessage_72 ?_
        refine x_iconst (v := nI 0) C dX9_endMessage_75 (by decide +kernel) ?_
        refine x_aload_n C dX9_endMessage_76 1 rfl rfl ?_
        refine x_aload C dX9_endMessage_77 0 rfl ?_
        refine x_callV C (ok_X2_makeKeys xO hsa (u + 1 + 0) 32 94 0 0 (u + 1 + 2) 32 (u + 1 + 3) 32 (f_I1.st (by intro k hk; simp; omega) hst) (hu.2.2 0 (by decide)).2.1 (by decide) (by decide) (by omega) (xO.2.2 94 _ rfl) (by decide) (by decide) (by decide) (by decide) (hu.2.2 2 (by decide)).2.1 (by decide) (by decide) (hu.2.2 2 (by decide)).2.2 (by omega) (hu.2.2 3 (by decide)).2.1 (by decide) (by decide) (hu.2.2 3 (by decide)).2.2 (by omega) (by omega) (by omega)) mv_X2_makeKeys ml_X9_247 (xO.1 114 _ rfl).1 rfl rfl rfl (Nat.le_of_ble_eq_true rfl) (hrm (rm := { frames := 0, cells := 0, slots := 0, locals := 0 }) hZ ⟨Nat.le_of_ble_eq_true rfl, Nat.le_of_ble_eq_true rfl⟩) (hcs hZ ⟨Nat.le_of_ble_eq_true rfl, Nat.le_of_ble_eq_true rfl⟩) dX9_endMessage_79 (fun v G' hp => ?_)
        obtain ⟨rfl, J2, rfl, k1, k2, k3⟩ := hp
        have f_J2 : fx [115, 116, 117, 118, 119, 120, u, u + 1 + 2, u + 1 + 3] I J2 := f_I1.tr k3 (by simp)
        have i0 : I1 (u + 1 + 0) = I (u + 1 + 0) := by rw [eI1, va_up_other _ _ (by omega)]
        have iu : J2 u = upd (I u) 13 (nI (nx + 1)) := by rw [k3 u (by simp; omega), eI1, va_up_same]
        show hX z 0 0 (T, J2, L, R, A) [(4, .ref (A (u + 1 + 3))), (3, .ref (A (u + 1 + 2))), (0, .ref (A 109)), (1, .ref (A S)), (2, .ref (A u))] 82 []
        refine x_aload_n C dX9_endMessage_82 4 rfl rfl ?_
        refine x_iconst (v := nI 1) C dX9_endMessage_83 (by decide +kernel) ?_
        refine x_putzN C fl_X9_135 hu.1 hu.2.1 rfl (by first | exact Or.inl rfl | exact Or.inr rfl | assumption) dX9_endMessage_84 (fun I11 eI11 => ?_)
        have f_I11 : fx [115, 116, 117, 118, 119, 120, u, u + 1 + 2, u + 1 + 3] I I11 := by rw [eI11]; exact (f_J2).up (by simp)
        refine x_aload_n C dX9_endMessage_87 4 rfl rfl ?_
        refine x_iconst (v := nI 0) C dX9_endMessage_88 (by decide +kernel) ?_
        refine x_putiN C fl_X9_138 hu.1 hu.2.1 rfl dX9_endMessage_89 (fun I12 eI12 => ?_)
        have f_I12 : fx [115, 116, 117, 118, 119, 120, u, u + 1 + 2, u + 1 + 3] I I12 := by rw [eI12]; exact (f_I11).up (by simp)
        refine x_aload_n C dX9_endMessage_92 4 rfl rfl ?_
        refine x_iconst (v := nI 0) C dX9_endMessage_93 (by decide +kernel) ?_
        refine x_putiN C fl_X9_220 hu.1 hu.2.1 rfl dX9_endMessage_94 (fun I13 eI13 => ?_)
        have f_I13 : fx [115, 116, 117, 118, 119, 120, u, u + 1 + 2, u + 1 + 3] I I13 := by rw [eI13]; exact (f_I12).up (by simp)
        exact x_vret C E (Nat.le_of_ble_eq_true rfl) (Nat.le_of_ble_eq_true rfl) dX9_endMessage_97 ((by first | (exfalso; omega) | exact ⟨rfl, _, rfl, Or.inr ⟨by omega, (by first | exact Or.inl ⟨by omega, fun i hi => by rw [eI13, va_up_other _ _ (by omega), eI12, va_up_other _ _ (by omega), eI11, va_up_other _ _ (by omega)]; rw [k1 i hi, i0]; exact congrFun (key1_cg (fun _ _ => rfl) (fun i hi => absurd hi (Nat.not_lt_zero i))) i, fun i hi => by rw [eI13, va_up_other _ _ (by omega), eI12, va_up_other _ _ (by omega), eI11, va_up_other _ _ (by omega)]; rw [k2 i hi, i0]; exact congrFun (key2_cg (fun _ _ => rfl) (fun i hi => absurd hi (Nat.not_lt_zero i))) i⟩ | exact Or.inr ⟨by omega, fun i hi => by rw [eI13, va_up_other _ _ (by omega), eI12, va_up_other _ _ (by omega), eI11, va_up_other _ _ (by omega)]; rw [k2 i hi, i0]; exact congrFun (key2_cg (fun _ _ => rfl) (fun i hi => absurd hi (Nat.not_lt_zero i))) i, fun i hi => by rw [eI13, va_up_other _ _ (by omega), eI12, va_up_other _ _ (by omega), eI11, va_up_other _ _ (by omega)]; rw [k1 i hi, i0]; exact congrFun (key1_cg (fun _ _ => rfl) (fun i hi => absurd hi (Nat.not_lt_zero i))) i⟩), by rw [eI13, va_up_same, eI12, va_up_same, eI11, va_up_same, iu], f_I13⟩⟩))
  · exact x_vret C E (Nat.le_of_ble_eq_true rfl) (Nat.le_of_ble_eq_true rfl) dX9_endMessage_24 (⟨rfl, _, rfl, Or.inl ⟨by omega, eI1⟩⟩)

