/-- the bytes of a padded text from st to en -/
def pdB (X : Nat → Nat) (st en : Nat) (t : Nat) : Nat := if st + t < en then X (st + t) else 0
theorem pol_s {r v : Int} {M b : Nat → Nat} {k : Nat} (h : ∀ t, t < 16 → b t = M (16 * k + t)) : (pol r v M k + blk b 0) * r % Q5 = pol r v M (k + 1) := by
  show _ = (pol r v M k + blk M k) * r % Q5
  rw [show blk b 0 = blk M k by unfold blk; rw [bN_cg 16 (a := fun t => b (16 * 0 + t)) (b := fun t => M (16 * k + t)) (fun t ht => by simp only [Nat.mul_zero, Nat.zero_add]; exact h t ht)]]
/-- the bytes of the two sizes -/
def szB (al tx : Nat) (i : Nat) : Nat := if i % 8 < 4 then (if i < 8 then al else tx) / 2 ^ (8 * (i % 8)) % 256 else 0
theorem szB_lt (al tx i : Nat) : szB al tx i < 256 := by unfold szB; split <;> omega
theorem sz_at {n p : Nat} (hn : n < 2 ^ 31) (hp : p < 4) : iusr (nI n) (nI (8 * p)) &&& nI 255 = nI (n / 2 ^ (8 * p) % 256) := by
  rw [nI_usr (by omega) (by omega), nI_255]
theorem pdB_lt {X : Nat → Nat} {st en : Nat} (h : ∀ j, st ≤ j → j < en → X j < 256) (t : Nat) : pdB X st en t < 256 := by
  unfold pdB; split
  · exact h _ (by omega) (by assumption)
  · omega
set_option maxHeartbeats 4000000 in
set_option maxRecDepth 100000 in
theorem ok_X8_addPadded {l : Launch} {a0 : Nat} {D : va_G} {sa : Nat → Nat} {T : Nat → Option hKd} {I : Nat → Nat → Int32} {L : Nat → Nat → Int64} {R : Nat → Nat → Option Nat} {A : Nat → Nat} (xO : isX T R A a0) (hsa : ∀ k, k < 5 → sa k = A (90 + k)) (a na st en : Nat) (X : Nat → Nat) (r v : Int) (hTa : T a = some (.inl (.int, na))) (hna : na < 2 ^ 20) (ha : a ≠ 141) (hse : st ≤ en) (hen : en ≤ na) (hxb : ∀ j, st ≤ j → j < en → I a j = nI (X j) ∧ X j < 256) (hg : tgS L r v) : hM l a0 D sa yX8_addPadded cX8_addPadded 6 none { frames := 2, cells := 0, slots := 0, locals := 50 } [.ref (A 137), .ref (A a), .int (nI st), .int (nI en)] (T, I, L, R, A) (fun r' G' => r' = none ∧ ∃ I' L', G' = (T, I', L', R, A) ∧ tgS L' r (pol r v (pdB X st en) ((en - st + 15) / 16)) ∧ fx [141] I I' ∧ fy [139, 140] L L') := by
  refine hM.of (by decide +kernel) (Nat.le_of_ble_eq_true rfl) ?_
  intro z hl h0 hD hS hN C E
  subst hl; subst h0; subst hD; subst hS
  have C : hC z RX8 cX8_addPadded := C
  have hZ := E.2.2.2.1
  show hX z 0 0 (T, I, L, R, A) [(0, .ref (A 137)), (1, .ref (A a)), (2, .int (nI st)), (3, .int (nI en))] 0 []
  refine x_iload_n C dX8_addPadded_0 2 rfl rfl ?_
  refine x_istore (lv' := [(4, .int (nI st)), (0, .ref (A 137)), (1, .ref (A a)), (2, .int (nI st)), (3, .int (nI en))]) C dX8_addPadded_1 (Nat.lt_of_lt_of_eq (by decide) hN.symm) rfl ?_
  have L3 : ∀ (fuel_ : Nat) (k : Nat) (J : Nat → Nat → Int32) (K : Nat → Nat → Int64), en - st - k < fuel_ → (16 * k < en - st + 16) → (tgS K r (pol r v (pdB X st en) k)) → (fx [141] I J) → (fy [139, 140] L K) → hX z 0 0 (T, J, K, R, A) [(4, .int (nI (st + 16 * k))), (0, .ref (A 137)), (1, .ref (A a)), (2, .int (nI st)), (3, .int (nI en))] 3 [] := by
    intro fuel_
    induction fuel_ with
    | zero => intro k J K hmz; exact absurd hmz (Nat.not_lt_zero _)
    | succ fuel_ ih3 =>
      intro k J K hmz hk hg2 fJ fK
      refine x_iload C dX8_addPadded_3 0 rfl ?_
      refine x_iload_n C dX8_addPadded_5 4 rfl rfl ?_
      refine x_icmp_geN (tgt := 62) C (by omega) (by omega) dX8_addPadded_6 (by decide) (fun c6 => ?_) (fun c6 => ?_)
      · exact x_vret C E (Nat.le_of_ble_eq_true rfl) (Nat.le_of_ble_eq_true rfl) dX8_addPadded_62 (⟨rfl, J, K, rfl, by rw [show (en - st + 15) / 16 = k by omega]; exact hg2, fJ, fK⟩)
      · refine x_iconst (v := nI 0) C dX8_addPadded_9 (by decide +kernel) ?_
        refine x_istore (lv' := [(5, .int (nI 0)), (4, .int (nI (st + 16 * k))), (0, .ref (A 137)), (1, .ref (A a)), (2, .int (nI st)), (3, .int (nI en))]) C dX8_addPadded_10 (Nat.lt_of_lt_of_eq (by decide) hN.symm) rfl ?_
        have L12 : ∀ (fuel_ : Nat) (i : Nat) (J : Nat → Nat → Int32), 16 - i < fuel_ → (i ≤ 16) → (∀ j, j < i → J 141 j = nI (pdB X st en (16 * k + j))) → (fx [141] I J) → hX z 0 0 (T, J, K, R, A) [(5, .int (nI i)), (4, .int (nI (st + 16 * k))), (0, .ref (A 137)), (1, .ref (A a)), (2, .int (nI st)), (3, .int (nI en))] 12 [] := by
          intro fuel_
          induction fuel_ with
          | zero => intro i J hmz; exact absurd hmz (Nat.not_lt_zero _)
          | succ fuel_ ih12 =>
            intro i J hmz hi hB fJ
            refine x_iload C dX8_addPadded_12 0 rfl ?_
            refine x_bipush (v := nI 16) C dX8_addPadded_14 (by decide +kernel) ?_
            refine x_icmp_geN (tgt := 52) C (by omega) (by omega) dX8_addPadded_16 (by decide) (fun c16 => ?_) (fun c16 => ?_)
            · refine x_aload_n C dX8_addPadded_52 2 rfl rfl ?_
              refine x_callV C (ok_X8_addBlock xO hsa (fun t => pdB X st en (16 * k + t)) r (pol r v (pdB X st en) k) hg2 (fun j hj => ⟨hB j (by omega), pdB_lt (fun j h1 h2 => (hxb j h1 h2).2) _⟩)) mv_X8_addBlock ml_X8_36 (xO.1 137 _ rfl).1 rfl rfl rfl (Nat.le_of_ble_eq_true rfl) (hrm (rm := { frames := 0, cells := 0, slots := 0, locals := 0 }) hZ ⟨Nat.le_of_ble_eq_true rfl, Nat.le_of_ble_eq_true rfl⟩) (hcs hZ ⟨Nat.le_of_ble_eq_true rfl, Nat.le_of_ble_eq_true rfl⟩) dX8_addPadded_53 (fun v G' hp => ?_)
              obtain ⟨rfl, J1, K1, rfl, g1, i1, f1, y1⟩ := hp
              rw [pol_s (fun t _ => rfl)] at g1
              show hX z 0 0 (T, J1, K1, R, A) [(5, .int (nI i)), (4, .int (nI (st + 16 * k))), (0, .ref (A 137)), (1, .ref (A a)), (2, .int (nI st)), (3, .int (nI en))] 56 []
              refine x_iinc (v := nI (st + 16 * k + 16)) (lv' := [(4, .int (nI (st + 16 * k + 16))), (5, .int (nI i)), (0, .ref (A 137)), (1, .ref (A a)), (2, .int (nI st)), (3, .int (nI en))]) C dX8_addPadded_56 1 rfl (nI_inc 16) (Nat.lt_of_lt_of_eq (by decide) hN.symm) rfl ?_
              refine x_goto (tgt := 3) C dX8_addPadded_59 (by decide) ?_
              refine x_sub (lv' := _) [0, 2, 3, 4, 5] rfl ?_
              exact ih3 (k + 1) J1 K1 (by omega) (by omega) g1 (fJ.tr f1 (by simp)) (fK.tr y1 (by simp))
            · refine x_aload_n C dX8_addPadded_19 2 rfl rfl ?_
              refine x_getrN C fl_X8_21 (xO.1 137 _ rfl).1 rfl (xO.2.1 137 3 _ rfl) dX8_addPadded_20 ?_
              refine x_iload C dX8_addPadded_23 0 rfl ?_
              refine x_iload C dX8_addPadded_25 1 rfl ?_
              refine x_iload C dX8_addPadded_27 0 rfl ?_
              refine x_iaddN C dX8_addPadded_29 ?_
              refine x_iload_n C dX8_addPadded_30 5 rfl rfl ?_
              refine x_icmp_geN (tgt := 44) C (by omega) (by omega) dX8_addPadded_31 (by decide) (fun c31 => ?_) (fun c31 => ?_)
              · refine x_iconst (v := nI 0) C dX8_addPadded_44 (by decide +kernel) ?_
                refine x_eqi (y := nI (pdB X st en (16 * k + i))) (by unfold pdB; rw [if_neg (by omega)]) ?_
                refine x_iastN C (xO.1 141 _ rfl).1 (xO.1 141 _ rfl).2 (by omega) (by omega) dX8_addPadded_45 (fun I1 eI1 => ?_)
                refine x_iinc (v := nI (i + 1)) (lv' := [(5, .int (nI (i + 1))), (4, .int (nI (st + 16 * k))), (0, .ref (A 137)), (1, .ref (A a)), (2, .int (nI st)), (3, .int (nI en))]) C dX8_addPadded_46 0 rfl (nI_inc 1) (Nat.lt_of_lt_of_eq (by decide) hN.symm) rfl ?_
                refine x_goto (tgt := 12) C dX8_addPadded_49 (by decide) ?_
                refine x_sub (lv' := _) [0, 1, 2, 3, 4, 5] rfl ?_
                exact ih12 (i + 1) I1 (by omega) (by omega) (g_ap (f := fun j => nI (pdB X st en (16 * k + j))) hB (by rw [eI1, up_eq])) (by rw [eI1]; exact fJ.up (by simp))
              · refine x_aload_n C dX8_addPadded_34 3 rfl rfl ?_
                refine x_iload C dX8_addPadded_35 1 rfl ?_
                refine x_iload C dX8_addPadded_37 0 rfl ?_
                refine x_iaddN C dX8_addPadded_39 ?_
                refine x_ialdN C hTa (by omega) (by omega) dX8_addPadded_40 ?_
                refine x_eqi (y := nI (pdB X st en (16 * k + i))) (by rw [fJ a (by simp [ha])]; rw [(hxb _ (by omega) (by omega)).1]; unfold pdB; rw [if_pos (by omega), show st + (16 * k + i) = st + 16 * k + i by omega]) ?_
                refine x_goto (tgt := 45) C dX8_addPadded_41 (by decide) ?_
                refine x_eqi (y := nI (pdB X st en (16 * k + i))) rfl ?_
                refine x_iastN C (xO.1 141 _ rfl).1 (xO.1 141 _ rfl).2 (by omega) (by omega) dX8_addPadded_45 (fun I2 eI2 => ?_)
                refine x_iinc (v := nI (i + 1)) (lv' := [(5, .int (nI (i + 1))), (4, .int (nI (st + 16 * k))), (0, .ref (A 137)), (1, .ref (A a)), (2, .int (nI st)), (3, .int (nI en))]) C dX8_addPadded_46 0 rfl (nI_inc 1) (Nat.lt_of_lt_of_eq (by decide) hN.symm) rfl ?_
                refine x_goto (tgt := 12) C dX8_addPadded_49 (by decide) ?_
                refine x_sub (lv' := _) [0, 1, 2, 3, 4, 5] rfl ?_
                exact ih12 (i + 1) I2 (by omega) (by omega) (g_ap (f := fun j => nI (pdB X st en (16 * k + j))) hB (by rw [eI2, up_eq])) (by rw [eI2]; exact fJ.up (by simp))
        refine x_sub (lv' := _) [0, 1, 2, 3, 4, 5] rfl ?_
        exact L12 _ 0 J (Nat.lt_succ_self _) (by omega) (fun j h => absurd h (by omega)) fJ
  refine x_sub (lv' := _) [0, 1, 2, 3, 4] rfl ?_
  exact L3 _ 0 I L (Nat.lt_succ_self _) (by omega) hg fx.rf fy.rf

set_option maxHeartbeats 4000000 in
set_option maxRecDepth 100000 in
theorem ok_X8_addSizes {l : Launch} {a0 : Nat} {D : va_G} {sa : Nat → Nat} {T : Nat → Option hKd} {I : Nat → Nat → Int32} {L : Nat → Nat → Int64} {R : Nat → Nat → Option Nat} {A : Nat → Nat} (xO : isX T R A a0) (hsa : ∀ k, k < 5 → sa k = A (90 + k)) (al tx : Nat) (r v : Int) (hal : al < 2 ^ 31) (htx : tx < 2 ^ 31) (hg : tgS L r v) : hM l a0 D sa yX8_addSizes cX8_addSizes 6 none { frames := 2, cells := 0, slots := 0, locals := 50 } [.ref (A 137), .int (nI al), .int (nI tx)] (T, I, L, R, A) (fun r' G' => r' = none ∧ ∃ I' L', G' = (T, I', L', R, A) ∧ tgS L' r (pol r v (szB al tx) 1) ∧ fx [141] I I' ∧ fy [139, 140] L L') := by
  refine hM.of (by decide +kernel) (Nat.le_of_ble_eq_true rfl) ?_
  intro z hl h0 hD hS hN C E
  subst hl; subst h0; subst hD; subst hS
  have C : hC z RX8 cX8_addSizes := C
  have hZ := E.2.2.2.1
  show hX z 0 0 (T, I, L, R, A) [(0, .ref (A 137)), (1, .int (nI al)), (2, .int (nI tx))] 0 []
  refine x_iconst (v := nI 0) C dX8_addSizes_0 (by decide +kernel) ?_
  refine x_istore_n (lv' := [(3, .int (nI 0)), (0, .ref (A 137)), (1, .int (nI al)), (2, .int (nI tx))]) C dX8_addSizes_1 rfl (Nat.lt_of_lt_of_eq (by decide) hN.symm) rfl ?_
  have L2 : ∀ (fuel_ : Nat) (i : Nat) (J : Nat → Nat → Int32), 16 - i < fuel_ → (i ≤ 16) → (∀ j, j < i → J 141 j = nI (szB al tx j)) → (fx [141] I J) → hX z 0 0 (T, J, L, R, A) [(3, .int (nI i)), (0, .ref (A 137)), (1, .int (nI al)), (2, .int (nI tx))] 2 [] := by
    intro fuel_
    induction fuel_ with
    | zero => intro i J hmz; exact absurd hmz (Nat.not_lt_zero _)
    | succ fuel_ ih2 =>
      intro i J hmz hi hB fJ
      refine x_iload_n C dX8_addSizes_2 0 rfl rfl ?_
      refine x_bipush (v := nI 16) C dX8_addSizes_3 (by decide +kernel) ?_
      refine x_icmp_geN (tgt := 61) C (by omega) (by omega) dX8_addSizes_5 (by decide) (fun c5 => ?_) (fun c5 => ?_)
      · refine x_aload_n C dX8_addSizes_61 1 rfl rfl ?_
        refine x_callV C (ok_X8_addBlock xO hsa (szB al tx) r v hg (fun j hj => ⟨hB j (by omega), szB_lt _ _ _⟩)) mv_X8_addBlock ml_X8_36 (xO.1 137 _ rfl).1 rfl rfl rfl (Nat.le_of_ble_eq_true rfl) (hrm (rm := { frames := 0, cells := 0, slots := 0, locals := 0 }) hZ ⟨Nat.le_of_ble_eq_true rfl, Nat.le_of_ble_eq_true rfl⟩) (hcs hZ ⟨Nat.le_of_ble_eq_true rfl, Nat.le_of_ble_eq_true rfl⟩) dX8_addSizes_62 (fun v G' hp => ?_)
        obtain ⟨rfl, J1, K1, rfl, g1, i1, f1, y1⟩ := hp
        have g2 : tgS K1 r (pol r v (szB al tx) 1) := g1
        show hX z 0 0 (T, J1, K1, R, A) [(3, .int (nI i)), (0, .ref (A 137)), (1, .int (nI al)), (2, .int (nI tx))] 65 []
        exact x_vret C E (Nat.le_of_ble_eq_true rfl) (Nat.le_of_ble_eq_true rfl) dX8_addSizes_65 (⟨rfl, J1, K1, rfl, g2, fJ.tr f1 (by simp), y1⟩)
      · refine x_iload_n C dX8_addSizes_8 0 rfl rfl ?_
        refine x_bipush (v := nI 8) C dX8_addSizes_9 (by decide +kernel) ?_
        refine x_icmp_geN (tgt := 18) C (by omega) (by omega) dX8_addSizes_11 (by decide) (fun c11 => ?_) (fun c11 => ?_)
        · refine x_iload_n C dX8_addSizes_18 3 rfl rfl ?_
          refine x_istore (lv' := [(4, .int (nI tx)), (3, .int (nI i)), (0, .ref (A 137)), (1, .int (nI al)), (2, .int (nI tx))]) C dX8_addSizes_19 (Nat.lt_of_lt_of_eq (by decide) hN.symm) rfl ?_
          refine x_iload_n C dX8_addSizes_21 1 rfl rfl ?_
          refine x_bipush (v := nI 7) C dX8_addSizes_22 (by decide +kernel) ?_
          refine x_iandN (q := 3) C (by omega) (by omega) rfl dX8_addSizes_24 ?_
          refine x_istore (lv' := [(5, .int (nI (i % 2 ^ 3))), (4, .int (nI tx)), (3, .int (nI i)), (0, .ref (A 137)), (1, .int (nI al)), (2, .int (nI tx))]) C dX8_addSizes_25 (Nat.lt_of_lt_of_eq (by decide) hN.symm) rfl ?_
          refine x_aload_n C dX8_addSizes_27 3 rfl rfl ?_
          refine x_getrN C fl_X8_21 (xO.1 137 _ rfl).1 rfl (xO.2.1 137 3 _ rfl) dX8_addSizes_28 ?_
          refine x_iload_n C dX8_addSizes_31 2 rfl rfl ?_
          refine x_iload C dX8_addSizes_32 0 rfl ?_
          refine x_iconst (v := nI 4) C dX8_addSizes_34 (by decide +kernel) ?_
          refine x_icmp_geN (tgt := 53) C (by omega) (by omega) dX8_addSizes_35 (by decide) (fun c35 => ?_) (fun c35 => ?_)
          · refine x_iconst (v := nI 0) C dX8_addSizes_53 (by decide +kernel) ?_
            refine x_eqi (y := nI (szB al tx i)) (by unfold szB; rw [if_neg (by omega)]) ?_
            refine x_iastN C (xO.1 141 _ rfl).1 (xO.1 141 _ rfl).2 (by omega) (by omega) dX8_addSizes_54 (fun I1 eI1 => ?_)
            refine x_iinc (v := nI (i + 1)) (lv' := [(3, .int (nI (i + 1))), (5, .int (nI (i % 2 ^ 3))), (4, .int (nI tx)), (0, .ref (A 137)), (1, .int (nI al)), (2, .int (nI tx))]) C dX8_addSizes_55 2 rfl (nI_inc 1) (Nat.lt_of_lt_of_eq (by decide) hN.symm) rfl ?_
            refine x_goto (tgt := 2) C dX8_addSizes_58 (by decide) ?_
            refine x_sub (lv' := _) [0, 3, 4, 5] rfl ?_
            exact ih2 (i + 1) I1 (by omega) (by omega) (g_ap (f := fun j => nI (szB al tx j)) hB (by rw [eI1, up_eq])) (by rw [eI1]; exact fJ.up (by simp))
          · refine x_iload C dX8_addSizes_38 1 rfl ?_
            refine x_bipush (v := nI 8) C dX8_addSizes_40 (by decide +kernel) ?_
            refine x_iload C dX8_addSizes_42 0 rfl ?_
            refine x_imulN C dX8_addSizes_44 ?_
            refine x_iushr C dX8_addSizes_45 ?_
            refine x_sipush (v := nI 255) C dX8_addSizes_46 (by decide +kernel) ?_
            refine x_iand C dX8_addSizes_49 ?_
            refine x_goto (tgt := 54) C dX8_addSizes_50 (by decide) ?_
            refine x_eqi (y := nI (szB al tx i)) (by rw [sz_at (by omega) (by omega)]; unfold szB; rw [if_pos (by omega), if_neg (by omega)]) ?_
            refine x_iastN C (xO.1 141 _ rfl).1 (xO.1 141 _ rfl).2 (by omega) (by omega) dX8_addSizes_54 (fun I2 eI2 => ?_)
            refine x_iinc (v := nI (i + 1)) (lv' := [(3, .int (nI (i + 1))), (5, .int (nI (i % 2 ^ 3))), (4, .int (nI tx)), (0, .ref (A 137)), (1, .int (nI al)), (2, .int (nI tx))]) C dX8_addSizes_55 2 rfl (nI_inc 1) (Nat.lt_of_lt_of_eq (by decide) hN.symm) rfl ?_
            refine x_goto (tgt := 2) C dX8_addSizes_58 (by decide) ?_
            refine x_sub (lv' := _) [0, 3, 4, 5] rfl ?_
            exact ih2 (i + 1) I2 (by omega) (by omega) (g_ap (f := fun j => nI (szB al tx j)) hB (by rw [eI2, up_eq])) (by rw [eI2]; exact fJ.up (by simp))
        · refine x_iload_n C dX8_addSizes_14 2 rfl rfl ?_
          refine x_goto (tgt := 19) C dX8_addSizes_15 (by decide) ?_
          refine x_istore (lv' := [(4, .int (nI al)), (3, .int (nI i)), (0, .ref (A 137)), (1, .int (nI al)), (2, .int (nI tx))]) C dX8_addSizes_19 (Nat.lt_of_lt_of_eq (by decide) hN.symm) rfl ?_
          refine x_iload_n C dX8_addSizes_21 1 rfl rfl ?_
          refine x_bipush (v := nI 7) C dX8_addSizes_22 (by decide +kernel) ?_
          refine x_iandN (q := 3) C (by omega) (by omega) rfl dX8_addSizes_24 ?_
          refine x_istore (lv' := [(5, .int (nI (i % 2 ^ 3))), (4, .int (nI al)), (3, .int (nI i)), (0, .ref (A 137)), (1, .int (nI al)), (2, .int (nI tx))]) C dX8_addSizes_25 (Nat.lt_of_lt_of_eq (by decide) hN.symm) rfl ?_
          refine x_aload_n C dX8_addSizes_27 3 rfl rfl ?_
          refine x_getrN C fl_X8_21 (xO.1 137 _ rfl).1 rfl (xO.2.1 137 3 _ rfl) dX8_addSizes_28 ?_
          refine x_iload_n C dX8_addSizes_31 2 rfl rfl ?_
          refine x_iload C dX8_addSizes_32 0 rfl ?_
          refine x_iconst (v := nI 4) C dX8_addSizes_34 (by decide +kernel) ?_
          refine x_icmp_geN (tgt := 53) C (by omega) (by omega) dX8_addSizes_35 (by decide) (fun c35 => ?_) (fun c35 => ?_)
          · refine x_iconst (v := nI 0) C dX8_addSizes_53 (by decide +kernel) ?_
            refine x_eqi (y := nI (szB al tx i)) (by unfold szB; rw [if_neg (by omega)]) ?_
            refine x_iastN C (xO.1 141 _ rfl).1 (xO.1 141 _ rfl).2 (by omega) (by omega) dX8_addSizes_54 (fun I3 eI3 => ?_)
            refine x_iinc (v := nI (i + 1)) (lv' := [(3, .int (nI (i + 1))), (5, .int (nI (i % 2 ^ 3))), (4, .int (nI al)), (0, .ref (A 137)), (1, .int (nI al)), (2, .int (nI tx))]) C dX8_addSizes_55 2 rfl (nI_inc 1) (Nat.lt_of_lt_of_eq (by decide) hN.symm) rfl ?_
            refine x_goto (tgt := 2) C dX8_addSizes_58 (by decide) ?_
            refine x_sub (lv' := _) [0, 3, 4, 5] rfl ?_
            exact ih2 (i + 1) I3 (by omega) (by omega) (g_ap (f := fun j => nI (szB al tx j)) hB (by rw [eI3, up_eq])) (by rw [eI3]; exact fJ.up (by simp))
          · refine x_iload C dX8_addSizes_38 1 rfl ?_
            refine x_bipush (v := nI 8) C dX8_addSizes_40 (by decide +kernel) ?_
            refine x_iload C dX8_addSizes_42 0 rfl ?_
            refine x_imulN C dX8_addSizes_44 ?_
            refine x_iushr C dX8_addSizes_45 ?_
            refine x_sipush (v := nI 255) C dX8_addSizes_46 (by decide +kernel) ?_
            refine x_iand C dX8_addSizes_49 ?_
            refine x_goto (tgt := 54) C dX8_addSizes_50 (by decide) ?_
            refine x_eqi (y := nI (szB al tx i)) (by rw [sz_at (by omega) (by omega)]; unfold szB; rw [if_pos (by omega), if_pos (by omega)]) ?_
            refine x_iastN C (xO.1 141 _ rfl).1 (xO.1 141 _ rfl).2 (by omega) (by omega) dX8_addSizes_54 (fun I4 eI4 => ?_)
            refine x_iinc (v := nI (i + 1)) (lv' := [(3, .int (nI (i + 1))), (5, .int (nI (i % 2 ^ 3))), (4, .int (nI al)), (0, .ref (A 137)), (1, .int (nI al)), (2, .int (nI tx))]) C dX8_addSizes_55 2 rfl (nI_inc 1) (Nat.lt_of_lt_of_eq (by decide) hN.symm) rfl ?_
            refine x_goto (tgt := 2) C dX8_addSizes_58 (by decide) ?_
            refine x_sub (lv' := _) [0, 3, 4, 5] rfl ?_
            exact ih2 (i + 1) I4 (by omega) (by omega) (g_ap (f := fun j => nI (szB al tx j)) hB (by rw [eI4, up_eq])) (by rw [eI4]; exact fJ.up (by simp))
  refine x_sub (lv' := _) [0, 1, 2, 3] rfl ?_
  exact L2 _ 0 I (Nat.lt_succ_self _) (by omega) (fun j h => absurd h (by omega)) fx.rf

