/-- an int as a byte -/
def byt (x : Int32) : Nat := x.toBitVec.toNat
theorem nI_byt (x : Int32) : x = nI (byt x) := by
  apply Int32.toBitVec_inj.mp
  apply BitVec.eq_of_toNat_eq
  show _ = (BitVec.ofNat 32 x.toBitVec.toNat).toNat
  rw [BitVec.toNat_ofNat, Nat.mod_eq_of_lt x.toBitVec.isLt]
theorem byt_nI {n : Nat} (h : n < 2 ^ 32) : byt (nI n) = n := by
  show (BitVec.ofNat 32 n).toNat = n
  rw [BitVec.toNat_ofNat, Nat.mod_eq_of_lt h]
theorem byt_255 (x : Int32) : byt (x &&& nI 255) < 256 := by
  rw [pk_and x 8 (by decide +kernel), byt_nI (by omega)]; omega
theorem cStr_b (key : Nat → Int32) (c n : Int32) (k : Nat) : byt (cStr key c n k) < 256 := byt_255 _
/-- what is told to the tag: what goes along, the text, each filled up, and their sizes -/
def tolN (am : Nat) (X : Nat → Nat) (m : Nat) (Y : Nat → Nat) (t : Nat) : Nat := if t < am then X t else if t - am < m then Y (t - am) else if t < am + (m + 15) / 16 * 16 then 0 else szB am m (t - (am + (m + 15) / 16 * 16))
def tagO (key : Nat → Int32) (n : Int32) (am : Nat) (X : Nat → Nat) (m : Nat) (Y : Nat → Nat) (j : Nat) : Nat := tagN (fun j => byt (cStr key (nI 0) n j)) (tolN am X m Y) ((am + (m + 15) / 16 * 16 + 16) / 16) j
theorem tagO_lt (key : Nat → Int32) (n : Int32) (am : Nat) (X : Nat → Nat) (m : Nat) (Y : Nat → Nat) (j : Nat) : tagO key n am X m Y j < 256 := tgV_lt _ _ _
theorem tol_cls (r : Int) {am a f e : Nat} (X Z : Nat → Nat) (ha : am = 16 * a) (hfe : f ≤ e) : pol r (pol r (pol r 0 (pdB X 0 am) ((am - 0 + 15) / 16)) (pdB Z f e) ((e - f + 15) / 16)) (szB am (e - f)) 1 = pol r 0 (tolN am X (e - f) (fun j => Z (f + j))) ((am + (e - f + 15) / 16 * 16 + 16) / 16) := by
  rw [show (am + (e - f + 15) / 16 * 16 + 16) / 16 = a + (e - f + 15) / 16 + 1 by omega, show (am - 0 + 15) / 16 = a by omega]
  rw [pol_app r 0 _ (a + (e - f + 15) / 16) 1, pol_app r 0 _ a ((e - f + 15) / 16)]
  rw [pol_cg (M := fun t => tolN am X (e - f) (fun j => Z (f + j)) (16 * a + t)) (N := pdB Z f e) r _ ((e - f + 15) / 16) (fun t ht => by
    unfold tolN pdB; rw [if_neg (by omega), show 16 * a + t - am = t by omega]
    by_cases c : t < e - f
    · rw [if_pos c, if_pos (by omega)]
    · rw [if_neg c, if_pos (by omega), if_neg (by omega)])]
  rw [pol_cg (M := tolN am X (e - f) (fun j => Z (f + j))) (N := pdB X 0 am) r 0 a (fun t ht => by
    unfold tolN pdB; rw [if_pos (by omega), if_pos (by omega), Nat.zero_add])]
  rw [pol_cg (M := fun t => tolN am X (e - f) (fun j => Z (f + j)) (16 * (a + (e - f + 15) / 16) + t)) (N := szB am (e - f)) r _ 1 (fun t ht => by
    unfold tolN; rw [if_neg (by omega), if_neg (by omega), if_neg (by omega), show 16 * (a + (e - f + 15) / 16) + t - (am + (e - f + 15) / 16 * 16) = t by omega])]
theorem tolN_lt {am m : Nat} {X Y : Nat → Nat} (hx : ∀ j, j < am → X j < 256) (hy : ∀ j, j < m → Y j < 256) (t : Nat) : tolN am X m Y t < 256 := by
  unfold tolN; split
  · exact hx _ (by assumption)
  · split
    · exact hy _ (by assumption)
    · split
      · decide
      · exact szB_lt _ _ _
theorem pol_mc {M N : Nat → Nat} (r v : Int) (h : M = N) (k : Nat) : pol r v M k = pol r v N k := by rw [h]
theorem tagO_cg {key key' : Nat → Int32} {n : Int32} {am m : Nat} {X X' Y Y' : Nat → Nat} (hk : ∀ i, i < 32 → key i = key' i) (hx : ∀ j, j < am → X j = X' j) (hy : ∀ j, j < m → Y j = Y' j) (j : Nat) : tagO key n am X m Y j = tagO key' n am X' m Y' j := by
  unfold tagO
  rw [show (fun j => byt (cStr key (nI 0) n j)) = (fun j => byt (cStr key' (nI 0) n j)) by funext j; unfold cStr; rw [cSt_congr hk]]
  rw [show tolN am X m Y = tolN am X' m Y' by
    funext t; unfold tolN; split
    · exact hx _ (by assumption)
    · split
      · exact hy _ (by assumption)
      · rfl]
set_option maxHeartbeats 4000000 in
set_option maxRecDepth 100000 in
theorem ok_X0_makeTag {l : Launch} {a0 : Nat} {D : va_G} {sa : Nat → Nat} {T : Nat → Option hKd} {I : Nat → Nat → Int32} {L : Nat → Nat → Int64} {R : Nat → Nat → Option Nat} {A : Nat → Nat} (xO : isX T R A a0) (hsa : ∀ k, k < 5 → sa k = A (90 + k)) (a na a16 x nx f e : Nat) (key : Nat → Int32) (n : Int32) (hTa : T a = some (.inl (.int, na))) (hna : na < 2 ^ 20) (hna16 : na = 16 * a16) (hTx : T x = some (.inl (.int, nx))) (hnx : nx < 2 ^ 20) (hfe : f ≤ e) (he : e ≤ nx) (ha : a ≠ 133 ∧ a ≠ 134 ∧ a ≠ 135 ∧ a ≠ 136 ∧ a ≠ 141 ∧ a ≠ 142) (hx : x ≠ 133 ∧ x ≠ 134 ∧ x ≠ 135 ∧ x ≠ 136 ∧ x ≠ 141 ∧ x ≠ 142) (hba : ∀ j, j < na → byt (I a j) < 256) (hbx : ∀ j, f ≤ j → j < e → byt (I x j) < 256) (hS : ∀ c i, i < 16 → i ≠ 12 → I 133 i = cSt key c n i) : hM l a0 D sa yX0_makeTag cX0_makeTag 6 none { frames := 3, cells := 0, slots := 0, locals := 75 } [.ref (A 132), .ref (A a), .ref (A x), .int (nI f), .int (nI e)] (T, I, L, R, A) (fun r G' => r = none ∧ ∃ I' L', G' = (T, I', L', R, A) ∧ (∀ j, j < 16 → I' 135 j = nI (tagO key n na (fun j => byt (I a j)) (e - f) (fun j => byt (I x (f + j))) j)) ∧ (∀ c i, i < 16 → i ≠ 12 → I' 133 i = cSt key c n i) ∧ fx [133, 134, 135, 136, 141, 142] I I' ∧ fy [138, 139, 140] L L') := by
  refine hM.of (by decide +kernel) (Nat.le_of_ble_eq_true rfl) ?_
  intro z hl h0 hD hS hN C E
  subst hl; subst h0; subst hD; subst hS
  have C : hC z RX0 cX0_makeTag := C
  have hZ := E.2.2.2.1
  show hX z 0 0 (T, I, L, R, A) [(0, .ref (A 132)), (1, .ref (A a)), (2, .ref (A x)), (3, .int (nI f)), (4, .int (nI e))] 0 []
  refine x_aload_n C dX0_makeTag_0 0 rfl rfl ?_
  refine x_iconst (v := nI 0) C dX0_makeTag_1 (by decide +kernel) ?_
  refine x_callV C (ok_X0_makeBlock xO hsa (nI 0)) mv_X0_makeBlock ml_X0_67 (xO.1 132 _ rfl).1 rfl rfl rfl (Nat.le_of_ble_eq_true rfl) (hrm (rm := { frames := 0, cells := 0, slots := 0, locals := 0 }) hZ ⟨Nat.le_of_ble_eq_true rfl, Nat.le_of_ble_eq_true rfl⟩) (hcs hZ ⟨Nat.le_of_ble_eq_true rfl, Nat.le_of_ble_eq_true rfl⟩) dX0_makeTag_2 (fun v G' hp => ?_)
  obtain ⟨rfl, J1, rfl, i1, b1, f1⟩ := hp
  have hB : ∀ s, s < 16 → J1 134 s = cBlk (cSt key (nI 0) n) s := fun s hs => by rw [b1 s hs, i1]; exact cBlk_congr (cSt_12 (fun i hi h => hS _ i hi h)) s hs
  have hS3 : ∀ c i, i < 16 → i ≠ 12 → J1 133 i = cSt key c n i := fun c i hi h => by rw [i1, pk_un h]; exact hS c i hi h
  show hX z 0 0 (T, J1, L, R, A) [(0, .ref (A 132)), (1, .ref (A a)), (2, .ref (A x)), (3, .int (nI f)), (4, .int (nI e))] 5 []
  refine x_iconst (v := nI 0) C dX0_makeTag_5 (by decide +kernel) ?_
  refine x_istore (lv' := [(5, .int (nI 0)), (0, .ref (A 132)), (1, .ref (A a)), (2, .ref (A x)), (3, .int (nI f)), (4, .int (nI e))]) C dX0_makeTag_6 (Nat.lt_of_lt_of_eq (by decide) hN.symm) rfl ?_
  have L8 : ∀ (fuel_ : Nat) (i : Nat) (J : Nat → Nat → Int32), 32 - i < fuel_ → (i ≤ 32) → (∀ j, j < i → J 136 j = cStr key (nI 0) n j) → (∀ s, s < 16 → J 134 s = cBlk (cSt key (nI 0) n) s) → (∀ c i, i < 16 → i ≠ 12 → J 133 i = cSt key c n i) → (fx [134, 133, 136, 141, 142] I J) → hX z 0 0 (T, J, L, R, A) [(5, .int (nI i)), (0, .ref (A 132)), (1, .ref (A a)), (2, .ref (A x)), (3, .int (nI f)), (4, .int (nI e))] 8 [] := by
    intro fuel_
    induction fuel_ with
    | zero => intro i J hmz; exact absurd hmz (Nat.not_lt_zero _)
    | succ fuel_ ih8 =>
      intro i J hmz hi hK hB hS3 fJ
      refine x_iload C dX0_makeTag_8 0 rfl ?_
      refine x_bipush (v := nI 32) C dX0_makeTag_10 (by decide +kernel) ?_
      refine x_icmp_geN (tgt := 34) C (by omega) (by omega) dX0_makeTag_12 (by decide) (fun c12 => ?_) (fun c12 => ?_)
      · refine x_aload_n C dX0_makeTag_34 1 rfl rfl ?_
        refine x_getrN C fl_X0_27 (xO.1 132 _ rfl).1 rfl (xO.2.1 132 4 _ rfl) dX0_makeTag_35 ?_
        refine x_aload_n C dX0_makeTag_38 1 rfl rfl ?_
        refine x_getrN C fl_X0_21 (xO.1 132 _ rfl).1 rfl (xO.2.1 132 3 _ rfl) dX0_makeTag_39 ?_
        refine x_callV C (ok_X8_begin xO hsa 136 32 (fun j => byt (cStr key (nI 0) n j)) (xO.1 136 _ rfl).1 (by decide) (by decide) (by decide) (fun j hj => ⟨by rw [hK j (by omega)]; exact nI_byt _, cStr_b _ _ _ _⟩)) mv_X8_begin ml_X0_74 (xO.1 137 _ rfl).1 rfl rfl rfl (Nat.le_of_ble_eq_true rfl) (hrm (rm := { frames := 0, cells := 0, slots := 0, locals := 0 }) hZ ⟨Nat.le_of_ble_eq_true rfl, Nat.le_of_ble_eq_true rfl⟩) (hcs hZ ⟨Nat.le_of_ble_eq_true rfl, Nat.le_of_ble_eq_true rfl⟩) dX0_makeTag_42 (fun v G' hp => ?_)
        obtain ⟨rfl, J2, K2, rfl, g2, l2, f2, y2⟩ := hp
        have fJ2 : fx [134, 133, 136, 141, 142] I J2 := fJ.tr f2 (by simp)
        show hX z 0 0 (T, J2, K2, R, A) [(5, .int (nI i)), (0, .ref (A 132)), (1, .ref (A a)), (2, .ref (A x)), (3, .int (nI f)), (4, .int (nI e))] 45 []
        refine x_aload_n C dX0_makeTag_45 1 rfl rfl ?_
        refine x_getrN C fl_X0_27 (xO.1 132 _ rfl).1 rfl (xO.2.1 132 4 _ rfl) dX0_makeTag_46 ?_
        refine x_aload_n C dX0_makeTag_49 2 rfl rfl ?_
        refine x_iconst (v := nI 0) C dX0_makeTag_50 (by decide +kernel) ?_
        refine x_aload_n C dX0_makeTag_51 2 rfl rfl ?_
        refine x_alen C hTa dX0_makeTag_52 ?_
        refine x_callV C (ok_X8_addPadded xO hsa a na 0 na (fun j => byt (I a j)) _ _ hTa (by omega) ha.2.2.2.2.1 (by omega) (by omega) (fun j h1 h2 => ⟨by rw [fJ2 a (by simp [ha])]; exact nI_byt _, hba j h2⟩) g2) mv_X8_addPadded ml_X0_78 (xO.1 137 _ rfl).1 rfl rfl rfl (Nat.le_of_ble_eq_true rfl) (hrm (rm := { frames := 0, cells := 0, slots := 0, locals := 0 }) hZ ⟨Nat.le_of_ble_eq_true rfl, Nat.le_of_ble_eq_true rfl⟩) (hcs hZ ⟨Nat.le_of_ble_eq_true rfl, Nat.le_of_ble_eq_true rfl⟩) dX0_makeTag_53 (fun v G' hp => ?_)
        obtain ⟨rfl, J3, K3, rfl, g3, f3, y3⟩ := hp
        have fJ3 : fx [134, 133, 136, 141, 142] I J3 := fJ2.tr f3 (by simp)
        show hX z 0 0 (T, J3, K3, R, A) [(5, .int (nI i)), (0, .ref (A 132)), (1, .ref (A a)), (2, .ref (A x)), (3, .int (nI f)), (4, .int (nI e))] 56 []
        refine x_aload_n C dX0_makeTag_56 1 rfl rfl ?_
        refine x_getrN C fl_X0_27 (xO.1 132 _ rfl).1 rfl (xO.2.1 132 4 _ rfl) dX0_makeTag_57 ?_
        refine x_aload_n C dX0_makeTag_60 3 rfl rfl ?_
        refine x_iload_n C dX0_makeTag_61 4 rfl rfl ?_
        refine x_iload C dX0_makeTag_62 5 rfl ?_
        refine x_callV C (ok_X8_addPadded xO hsa x nx f e (fun j => byt (I x j)) _ _ hTx (by omega) hx.2.2.2.2.1 (by omega) (by omega) (fun j h1 h2 => ⟨by rw [fJ3 x (by simp [hx])]; exact nI_byt _, hbx j h1 h2⟩) g3) mv_X8_addPadded ml_X0_78 (xO.1 137 _ rfl).1 rfl rfl rfl (Nat.le_of_ble_eq_true rfl) (hrm (rm := { frames := 0, cells := 0, slots := 0, locals := 0 }) hZ ⟨Nat.le_of_ble_eq_true rfl, Nat.le_of_ble_eq_true rfl⟩) (hcs hZ ⟨Nat.le_of_ble_eq_true rfl, Nat.le_of_ble_eq_true rfl⟩) dX0_makeTag_64 (fun v G' hp => ?_)
        obtain ⟨rfl, J4, K4, rfl, g4, f4, y4⟩ := hp
        have fJ4 : fx [134, 133, 136, 141, 142] I J4 := fJ3.tr f4 (by simp)
        show hX z 0 0 (T, J4, K4, R, A) [(5, .int (nI i)), (0, .ref (A 132)), (1, .ref (A a)), (2, .ref (A x)), (3, .int (nI f)), (4, .int (nI e))] 67 []
        refine x_aload_n C dX0_makeTag_67 1 rfl rfl ?_
        refine x_getrN C fl_X0_27 (xO.1 132 _ rfl).1 rfl (xO.2.1 132 4 _ rfl) dX0_makeTag_68 ?_
        refine x_aload_n C dX0_makeTag_71 2 rfl rfl ?_
        refine x_alen C hTa dX0_makeTag_72 ?_
        refine x_iload C dX0_makeTag_73 5 rfl ?_
        refine x_iload_n C dX0_makeTag_75 4 rfl rfl ?_
        refine x_isubN C (by omega) dX0_makeTag_76 ?_
        refine x_callV C (ok_X8_addSizes xO hsa na (e - f) _ _ (by omega) (by omega) g4) mv_X8_addSizes ml_X0_81 (xO.1 137 _ rfl).1 rfl rfl rfl (Nat.le_of_ble_eq_true rfl) (hrm (rm := { frames := 0, cells := 0, slots := 0, locals := 0 }) hZ ⟨Nat.le_of_ble_eq_true rfl, Nat.le_of_ble_eq_true rfl⟩) (hcs hZ ⟨Nat.le_of_ble_eq_true rfl, Nat.le_of_ble_eq_true rfl⟩) dX0_makeTag_77 (fun v G' hp => ?_)
        obtain ⟨rfl, J5, K5, rfl, g5, f5, y5⟩ := hp
        have fJ5 : fx [134, 133, 136, 141, 142] I J5 := fJ4.tr f5 (by simp)
        have hl5 : ∀ j, j < 16 → J5 142 j = nI (byt (cStr key (nI 0) n (16 + j))) := fun j hj => by rw [f5 142 (by simp), f4 142 (by simp), f3 142 (by simp)]; exact l2 j hj
        rw [tol_cls _ _ _ hna16 hfe] at g5
        show hX z 0 0 (T, J5, K5, R, A) [(5, .int (nI i)), (0, .ref (A 132)), (1, .ref (A a)), (2, .ref (A x)), (3, .int (nI f)), (4, .int (nI e))] 80 []
        refine x_aload_n C dX0_makeTag_80 1 rfl rfl ?_
        refine x_getrN C fl_X0_27 (xO.1 132 _ rfl).1 rfl (xO.2.1 132 4 _ rfl) dX0_makeTag_81 ?_
        refine x_aload_n C dX0_makeTag_84 1 rfl rfl ?_
        refine x_getrN C fl_X0_18 (xO.1 132 _ rfl).1 rfl (xO.2.1 132 2 _ rfl) dX0_makeTag_85 ?_
        refine x_callV C (ok_X8_finish xO hsa 135 16 _ _ (fun j => byt (cStr key (nI 0) n (16 + j))) (xO.1 135 _ rfl).1 (xO.1 135 _ rfl).2 (by decide) (by decide) (by decide) g5 (fun j hj => ⟨hl5 j hj, cStr_b _ _ _ _⟩)) mv_X8_finish ml_X0_85 (xO.1 137 _ rfl).1 rfl rfl rfl (Nat.le_of_ble_eq_true rfl) (hrm (rm := { frames := 0, cells := 0, slots := 0, locals := 0 }) hZ ⟨Nat.le_of_ble_eq_true rfl, Nat.le_of_ble_eq_true rfl⟩) (hcs hZ ⟨Nat.le_of_ble_eq_true rfl, Nat.le_of_ble_eq_true rfl⟩) dX0_makeTag_88 (fun v G' hp => ?_)
        obtain ⟨rfl, rfl⟩ := hp
        generalize hJ6 : va_up J5 135 _ = J6
        show hX z 0 0 (T, J6, K5, R, A) [(5, .int (nI i)), (0, .ref (A 132)), (1, .ref (A a)), (2, .ref (A x)), (3, .int (nI f)), (4, .int (nI e))] 91 []
        exact x_vret C E (Nat.le_of_ble_eq_true rfl) (Nat.le_of_ble_eq_true rfl) dX0_makeTag_91 (⟨rfl, J6, K5, rfl, fun j hj => by rw [← hJ6, up_eq, if_pos hj]; rfl, fun c i hi h => by rw [← hJ6, up_ne _ _ (by decide), f5 133 (by simp), f4 133 (by simp), f3 133 (by simp), f2 133 (by simp)]; exact hS3 c i hi h, by rw [← hJ6]; exact (fJ5.wk (by simp)).up (by simp), (((fy.rf.tr (S := [138, 139, 140]) y2 (by simp)).tr y3 (by simp)).tr y4 (by simp)).tr y5 (by simp)⟩)
      · refine x_aload_n C dX0_makeTag_15 1 rfl rfl ?_
        refine x_getrN C fl_X0_21 (xO.1 132 _ rfl).1 rfl (xO.2.1 132 3 _ rfl) dX0_makeTag_16 ?_
        refine x_iload C dX0_makeTag_19 0 rfl ?_
        refine x_aload_n C dX0_makeTag_21 1 rfl rfl ?_
        refine x_iload C dX0_makeTag_22 0 rfl ?_
        refine x_callV C (ok_X0_blockByte xO hsa i (by omega)) mv_X0_blockByte ml_X0_71 (xO.1 132 _ rfl).1 rfl rfl rfl (Nat.le_of_ble_eq_true rfl) (hrm (rm := { frames := 0, cells := 0, slots := 0, locals := 0 }) hZ ⟨Nat.le_of_ble_eq_true rfl, Nat.le_of_ble_eq_true rfl⟩) (hcs hZ ⟨Nat.le_of_ble_eq_true rfl, Nat.le_of_ble_eq_true rfl⟩) dX0_makeTag_24 (fun v G' hp => ?_)
        obtain ⟨rfl, rfl⟩ := hp
        show hX z 0 0 (T, J, L, R, A) [(5, .int (nI i)), (0, .ref (A 132)), (1, .ref (A a)), (2, .ref (A x)), (3, .int (nI f)), (4, .int (nI e))] 27 [.int (cByt (J 134) i), .int (nI i), .ref (A 136)]
        refine x_iastN C (xO.1 136 _ rfl).1 (xO.1 136 _ rfl).2 (by omega) (by omega) dX0_makeTag_27 (fun I1 eI1 => ?_)
        refine x_iinc (v := nI (i + 1)) (lv' := [(5, .int (nI (i + 1))), (0, .ref (A 132)), (1, .ref (A a)), (2, .ref (A x)), (3, .int (nI f)), (4, .int (nI e))]) C dX0_makeTag_28 0 rfl (nI_inc 1) (Nat.lt_of_lt_of_eq (by decide) hN.symm) rfl ?_
        refine x_goto (tgt := 8) C dX0_makeTag_31 (by decide) ?_
        refine x_sub (lv' := _) [0, 1, 2, 3, 4, 5] rfl ?_
        exact ih8 (i + 1) I1 (by omega) (by omega) (g_ap (f := fun j => cStr key (nI 0) n j) hK (by rw [eI1, up_eq, cByt_congr hB (by omega)]; rfl)) (fun s hs => by rw [eI1, up_ne _ _ (by decide)]; exact hB s hs) (fun c i hi h => by rw [eI1, up_ne _ _ (by decide)]; exact hS3 c i hi h) (by rw [eI1]; exact fJ.up (by simp))
  refine x_sub (lv' := _) [0, 1, 2, 3, 4, 5] rfl ?_
  exact L8 _ 0 J1 (Nat.lt_succ_self _) (by omega) (fun j h => absurd h (by omega)) hB hS3 (f1.wk (by simp))

theorem tol_md {am m : Nat} {X Y : Nat → Nat} {J : Nat → Int32} (h : ∀ t, t < am + (m + 15) / 16 * 16 → J t = nI (tolN am X m Y t)) : ∀ t, t < am + (m + 15) / 16 * 16 + 16 → (if am + (m + 15) / 16 * 16 + 8 ≤ t ∧ t < am + (m + 15) / 16 * 16 + 8 + 8 then nI (lgB m (t - (am + (m + 15) / 16 * 16 + 8))) else if am + (m + 15) / 16 * 16 ≤ t ∧ t < am + (m + 15) / 16 * 16 + 8 then nI (lgB am (t - (am + (m + 15) / 16 * 16))) else J t) = nI (tolN am X m Y t) := by
  intro t ht
  by_cases c : t < am + (m + 15) / 16 * 16
  · rw [if_neg (by omega), if_neg (by omega)]; exact h t c
  · have e : tolN am X m Y t = szB am m (t - (am + (m + 15) / 16 * 16)) := by unfold tolN; rw [if_neg (by omega), if_neg (by omega), if_neg c]
    rw [e]
    obtain ⟨i, rfl⟩ : ∃ i, t = am + (m + 15) / 16 * 16 + i := ⟨t - (am + (m + 15) / 16 * 16), by omega⟩
    rw [show am + (m + 15) / 16 * 16 + i - (am + (m + 15) / 16 * 16) = i by omega, show am + (m + 15) / 16 * 16 + i - (am + (m + 15) / 16 * 16 + 8) = i - 8 by omega]
    by_cases c8 : i < 8
    · rw [if_neg (by omega), if_pos (by omega)]; unfold lgB szB; rw [show i % 8 = i by omega, if_pos c8]
    · rw [if_pos (by omega)]; unfold lgB szB; rw [show i % 8 = i - 8 by omega, if_neg c8]
set_option maxHeartbeats 4000000 in
set_option maxRecDepth 100000 in
theorem ok_X11_tagOf {l : Launch} {a0 : Nat} {D : va_G} {sa : Nat → Nat} {T : Nat → Option hKd} {I : Nat → Nat → Int32} {L : Nat → Nat → Int64} {R : Nat → Nat → Option Nat} {A : Nat → Nat} (mO : isM T R A a0) (kq nk p : Nat) (n : Int32) (a na ap am x nx f m : Nat) (hTk : T kq = some (.inl (.int, nk))) (hnk : nk < 2 ^ 31) (hp : p + 32 ≤ nk) (hk : kq ≠ 14 ∧ kq ≠ 15 ∧ kq ≠ 16) (hTa : T a = some (.inl (.int, na))) (hna : na < 2 ^ 20) (hap : ap + am ≤ na) (ham : am % 16 = 0) (hTx : T x = some (.inl (.int, nx))) (hnx : nx < 2 ^ 20) (hfm : f + m ≤ nx) (hall : am + (m + 15) / 16 * 16 + 16 ≤ 200) (ha : a ≠ 14 ∧ a ≠ 15 ∧ a ≠ 16 ∧ a ≠ 21 ∧ a ≠ 22) (hx : x ≠ 14 ∧ x ≠ 15 ∧ x ≠ 16 ∧ x ≠ 21 ∧ x ≠ 22) (hba : ∀ j, j < am → byt (I a (ap + j)) < 256) (hbx : ∀ j, j < m → byt (I x (f + j)) < 256) : hM l a0 D sa yX11_tagOf cX11_tagOf 12 none { frames := 3, cells := 0, slots := 0, locals := 71 } [.ref (A 63), .ref (A kq), .int (nI p), .int n, .ref (A a), .int (nI ap), .int (nI am), .ref (A x), .int (nI f), .int (nI m)] (T, I, L, R, A) (fun r G' => r = none ∧ ∃ I', G' = (T, I', L, R, A) ∧ (∀ j, j < 16 → I' 23 j = nI (tagO (fun i => I kq (p + i)) n am (fun j => byt (I a (ap + j))) m (fun j => byt (I x (f + j))) j)) ∧ fx [14, 15, 16, 17, 18, 19, 20, 21, 22, 23] I I') := by
  refine hM.of (by decide +kernel) (Nat.le_of_ble_eq_true rfl) ?_
  intro z hl h0 hD hS hN C E
  subst hl; subst h0; subst hD; subst hS
  have C : hC z RX11 cX11_tagOf := C
  have hZ := E.2.2.2.1
  show hX z 0 0 (T, I, L, R, A) [(0, .ref (A 63)), (1, .ref (A kq)), (2, .int (nI p)), (3, .int n), (4, .ref (A a)), (5, .int (nI ap)), (6, .int (nI am)), (7, .ref (A x)), (8, .int (nI f)), (9, .int (nI m))] 0 []
  refine x_aload_n C dX11_tagOf_0 0 rfl rfl ?_
  refine x_aload_n C dX11_tagOf_1 1 rfl rfl ?_
  refine x_iload_n C dX11_tagOf_2 2 rfl rfl ?_
  refine x_iconst (v := nI 0) C dX11_tagOf_3 (by decide +kernel) ?_
  refine x_iload_n C dX11_tagOf_4 3 rfl rfl ?_
  refine x_callV C (ok_X11_streams mO kq nk p (nI 0) n hTk hnk hp ⟨hk.1, hk.2.1, hk.2.2⟩) mv_X11_streams ml_X11_353 mO.1 rfl rfl rfl (Nat.le_of_ble_eq_true rfl) (hrm (rm := { frames := 0, cells := 0, slots := 0, locals := 0 }) hZ ⟨Nat.le_of_ble_eq_true rfl, Nat.le_of_ble_eq_true rfl⟩) (hcs hZ ⟨Nat.le_of_ble_eq_true rfl, Nat.le_of_ble_eq_true rfl⟩) dX11_tagOf_5 (fun v G' hp => ?_)
  obtain ⟨rfl, J1, rfl, b1, f1⟩ := hp
  show hX z 0 0 (T, J1, L, R, A) [(0, .ref (A 63)), (1, .ref (A kq)), (2, .int (nI p)), (3, .int n), (4, .ref (A a)), (5, .int (nI ap)), (6, .int (nI am)), (7, .ref (A x)), (8, .int (nI f)), (9, .int (nI m))] 8 []
  refine x_aload_n C dX11_tagOf_8 0 rfl rfl ?_
  refine x_getrN C fl_X11_128 mO.1 rfl (mO.2.2 16 _ rfl).1 dX11_tagOf_9 ?_
  refine x_iconst (v := nI 0) C dX11_tagOf_12 (by decide +kernel) ?_
  refine x_aload_n C dX11_tagOf_13 0 rfl rfl ?_
  refine x_getrN C fl_X11_143 mO.1 rfl (mO.2.2 21 _ rfl).1 dX11_tagOf_14 ?_
  refine x_iconst (v := nI 0) C dX11_tagOf_17 (by decide +kernel) ?_
  refine x_bipush (v := nI 32) C dX11_tagOf_18 (by decide +kernel) ?_
  refine x_callS C (ok_X11_copy 16 21 0 0 32 64 32 (mO.2.2 16 _ rfl).2.1 (mO.2.2 21 _ rfl).2.1 (mO.2.2 21 _ rfl).2.2 (by decide) (by decide) (by decide) (by decide) (by decide)) ms_X11_copy ml_X11_270 rfl rfl (Nat.le_of_ble_eq_true rfl) (hrm (rm := { frames := 0, cells := 0, slots := 0, locals := 0 }) hZ ⟨Nat.le_of_ble_eq_true rfl, Nat.le_of_ble_eq_true rfl⟩) (hcs hZ ⟨Nat.le_of_ble_eq_true rfl, Nat.le_of_ble_eq_true rfl⟩) dX11_tagOf_20 (fun v G' hp => ?_)
  obtain ⟨rfl, rfl⟩ := hp
  generalize hK0 : va_up J1 21 _ = K0
  have hk0 : ∀ j, j < 32 → K0 21 j = nI ((fun j => byt (cStr (fun i => I kq (p + i)) (nI 0) n j)) j) ∧ (fun j => byt (cStr (fun i => I kq (p + i)) (nI 0) n j)) j < 256 := fun j hj => ⟨by rw [← hK0, up_eq, if_pos (by omega), Nat.zero_add, Nat.sub_zero, b1 j (by omega)]; exact nI_byt _, cStr_b _ _ _ _⟩
  have fK0 : fx [14, 15, 16, 21, 22] I K0 := by rw [← hK0]; exact (f1.wk (by simp)).up (by simp)
  show hX z 0 0 (T, K0, L, R, A) [(0, .ref (A 63)), (1, .ref (A kq)), (2, .int (nI p)), (3, .int n), (4, .ref (A a)), (5, .int (nI ap)), (6, .int (nI am)), (7, .ref (A x)), (8, .int (nI f)), (9, .int (nI m))] 23 []
  refine x_iload C dX11_tagOf_23 9 rfl ?_
  refine x_bipush (v := nI 15) C dX11_tagOf_25 (by decide +kernel) ?_
  refine x_iaddN C dX11_tagOf_27 ?_
  refine x_bipush (v := nI 16) C dX11_tagOf_28 (by decide +kernel) ?_
  refine x_idivN C (by omega) (by omega) (by omega) dX11_tagOf_30 ?_
  refine x_bipush (v := nI 16) C dX11_tagOf_31 (by decide +kernel) ?_
  refine x_imulN C dX11_tagOf_33 ?_
  refine x_istore (lv' := [(10, .int (nI (((m + 15) / 16) * 16))), (0, .ref (A 63)), (1, .ref (A kq)), (2, .int (nI p)), (3, .int n), (4, .ref (A a)), (5, .int (nI ap)), (6, .int (nI am)), (7, .ref (A x)), (8, .int (nI f)), (9, .int (nI m))]) C dX11_tagOf_34 (Nat.lt_of_lt_of_eq (by decide) hN.symm) rfl ?_
  refine x_iconst (v := nI 0) C dX11_tagOf_36 (by decide +kernel) ?_
  refine x_istore (lv' := [(11, .int (nI 0)), (10, .int (nI (((m + 15) / 16) * 16))), (0, .ref (A 63)), (1, .ref (A kq)), (2, .int (nI p)), (3, .int n), (4, .ref (A a)), (5, .int (nI ap)), (6, .int (nI am)), (7, .ref (A x)), (8, .int (nI f)), (9, .int (nI m))]) C dX11_tagOf_37 (Nat.lt_of_lt_of_eq (by decide) hN.symm) rfl ?_
  have L39 : ∀ (fuel_ : Nat) (t : Nat) (J : Nat → Nat → Int32), am + ((m + 15) / 16 * 16) - t < fuel_ → (t ≤ am + ((m + 15) / 16 * 16)) → (∀ j, j < t → J 22 j = nI ((tolN am (fun j => byt (I a (ap + j))) m (fun j => byt (I x (f + j)))) j)) → (∀ j, j < 32 → J 21 j = nI ((fun j => byt (cStr (fun i => I kq (p + i)) (nI 0) n j)) j) ∧ (fun j => byt (cStr (fun i => I kq (p + i)) (nI 0) n j)) j < 256) → (fx [14, 15, 16, 21, 22] I J) → hX z 0 0 (T, J, L, R, A) [(11, .int (nI t)), (10, .int (nI (((m + 15) / 16) * 16))), (0, .ref (A 63)), (1, .ref (A kq)), (2, .int (nI p)), (3, .int n), (4, .ref (A a)), (5, .int (nI ap)), (6, .int (nI am)), (7, .ref (A x)), (8, .int (nI f)), (9, .int (nI m))] 39 [] := by
    intro fuel_
    induction fuel_ with
    | zero => intro t J hmz; exact absurd hmz (Nat.not_lt_zero _)
    | succ fuel_ ih39 =>
      intro t J hmz ht hJ hkj fJ
      refine x_iload C dX11_tagOf_39 0 rfl ?_
      refine x_iload C dX11_tagOf_41 8 rfl ?_
      refine x_iload C dX11_tagOf_43 1 rfl ?_
      refine x_iaddN C dX11_tagOf_45 ?_
      refine x_icmp_geN (tgt := 105) C (by omega) (by omega) dX11_tagOf_46 (by decide) (fun c46 => ?_) (fun c46 => ?_)
      · refine x_aload_n C dX11_tagOf_105 2 rfl rfl ?_
        refine x_iload C dX11_tagOf_106 8 rfl ?_
        refine x_iload C dX11_tagOf_108 1 rfl ?_
        refine x_iaddN C dX11_tagOf_110 ?_
        refine x_iload C dX11_tagOf_111 8 rfl ?_
        refine x_callV C (ok_X11_tellsLong mO (am + ((m + 15) / 16 * 16)) am (by omega) (by omega)) mv_X11_tellsLong ml_X11_357 mO.1 rfl rfl rfl (Nat.le_of_ble_eq_true rfl) (hrm (rm := { frames := 0, cells := 0, slots := 0, locals := 0 }) hZ ⟨Nat.le_of_ble_eq_true rfl, Nat.le_of_ble_eq_true rfl⟩) (hcs hZ ⟨Nat.le_of_ble_eq_true rfl, Nat.le_of_ble_eq_true rfl⟩) dX11_tagOf_113 (fun v G' hp => ?_)
        obtain ⟨rfl, rfl⟩ := hp
        generalize hK1 : va_up J 22 _ = K1
        show hX z 0 0 (T, K1, L, R, A) [(11, .int (nI t)), (10, .int (nI (((m + 15) / 16) * 16))), (0, .ref (A 63)), (1, .ref (A kq)), (2, .int (nI p)), (3, .int n), (4, .ref (A a)), (5, .int (nI ap)), (6, .int (nI am)), (7, .ref (A x)), (8, .int (nI f)), (9, .int (nI m))] 116 []
        refine x_aload_n C dX11_tagOf_116 2 rfl rfl ?_
        refine x_iload C dX11_tagOf_117 8 rfl ?_
        refine x_iload C dX11_tagOf_119 1 rfl ?_
        refine x_iaddN C dX11_tagOf_121 ?_
        refine x_bipush (v := nI 8) C dX11_tagOf_122 (by decide +kernel) ?_
        refine x_iaddN C dX11_tagOf_124 ?_
        refine x_iload C dX11_tagOf_125 11 rfl ?_
        refine x_callV C (ok_X11_tellsLong mO (am + ((m + 15) / 16 * 16) + 8) m (by omega) (by omega)) mv_X11_tellsLong ml_X11_357 mO.1 rfl rfl rfl (Nat.le_of_ble_eq_true rfl) (hrm (rm := { frames := 0, cells := 0, slots := 0, locals := 0 }) hZ ⟨Nat.le_of_ble_eq_true rfl, Nat.le_of_ble_eq_true rfl⟩) (hcs hZ ⟨Nat.le_of_ble_eq_true rfl, Nat.le_of_ble_eq_true rfl⟩) dX11_tagOf_127 (fun v G' hp => ?_)
        obtain ⟨rfl, rfl⟩ := hp
        generalize hK2 : va_up K1 22 _ = K2
        have ht2 : ∀ t, t < am + ((m + 15) / 16 * 16) + 16 → K2 22 t = nI ((tolN am (fun j => byt (I a (ap + j))) m (fun j => byt (I x (f + j)))) t) ∧ (tolN am (fun j => byt (I a (ap + j))) m (fun j => byt (I x (f + j)))) t < 256 := fun t ht => ⟨by rw [← hK2, up_eq, ← hK1, up_eq]; exact tol_md (fun t ht => hJ t (by omega)) t ht, tolN_lt hba hbx t⟩
        have fK2 : fx [14, 15, 16, 21, 22] I K2 := by rw [← hK2, ← hK1]; exact (fJ.up (by simp)).up (by simp)
        have hk2 : ∀ j, j < 32 → K2 21 j = nI ((fun j => byt (cStr (fun i => I kq (p + i)) (nI 0) n j)) j) ∧ (fun j => byt (cStr (fun i => I kq (p + i)) (nI 0) n j)) j < 256 := fun j hj => by rw [← hK2, ← hK1, up_ne _ _ (by decide), up_ne _ _ (by decide)]; exact hkj j hj
        show hX z 0 0 (T, K2, L, R, A) [(11, .int (nI t)), (10, .int (nI (((m + 15) / 16) * 16))), (0, .ref (A 63)), (1, .ref (A kq)), (2, .int (nI p)), (3, .int n), (4, .ref (A a)), (5, .int (nI ap)), (6, .int (nI am)), (7, .ref (A x)), (8, .int (nI f)), (9, .int (nI m))] 130 []
        refine x_aload_n C dX11_tagOf_130 2 rfl rfl ?_
        refine x_iload C dX11_tagOf_131 8 rfl ?_
        refine x_iload C dX11_tagOf_133 1 rfl ?_
        refine x_iaddN C dX11_tagOf_135 ?_
        refine x_bipush (v := nI 16) C dX11_tagOf_136 (by decide +kernel) ?_
        refine x_iaddN C dX11_tagOf_138 ?_
        refine x_callV C (ok_X11_tags mO (am + ((m + 15) / 16 * 16) + 16) (fun j => byt (cStr (fun i => I kq (p + i)) (nI 0) n j)) (tolN am (fun j => byt (I a (ap + j))) m (fun j => byt (I x (f + j)))) (by omega) (by omega) hk2 ht2) mv_X11_tags ml_X11_360 mO.1 rfl rfl rfl (Nat.le_of_ble_eq_true rfl) (hrm (rm := { frames := 0, cells := 0, slots := 0, locals := 0 }) hZ ⟨Nat.le_of_ble_eq_true rfl, Nat.le_of_ble_eq_true rfl⟩) (hcs hZ ⟨Nat.le_of_ble_eq_true rfl, Nat.le_of_ble_eq_true rfl⟩) dX11_tagOf_139 (fun v G' hp => ?_)
        obtain ⟨rfl, J3, rfl, t3, f3⟩ := hp
        show hX z 0 0 (T, J3, L, R, A) [(11, .int (nI t)), (10, .int (nI (((m + 15) / 16) * 16))), (0, .ref (A 63)), (1, .ref (A kq)), (2, .int (nI p)), (3, .int n), (4, .ref (A a)), (5, .int (nI ap)), (6, .int (nI am)), (7, .ref (A x)), (8, .int (nI f)), (9, .int (nI m))] 142 []
        exact x_vret C E (Nat.le_of_ble_eq_true rfl) (Nat.le_of_ble_eq_true rfl) dX11_tagOf_142 (⟨rfl, J3, rfl, t3, (fx.tr (S := [14, 15, 16, 17, 18, 19, 20, 21, 22, 23]) (fK2.wk (by simp)) f3 (by simp))⟩)
      · refine x_aload_n C dX11_tagOf_49 2 rfl rfl ?_
        refine x_getrN C fl_X11_146 mO.1 rfl (mO.2.2 22 _ rfl).1 dX11_tagOf_50 ?_
        refine x_iload C dX11_tagOf_53 0 rfl ?_
        refine x_iload C dX11_tagOf_55 0 rfl ?_
        refine x_iload C dX11_tagOf_57 8 rfl ?_
        refine x_icmp_geN (tgt := 73) C (by omega) (by omega) dX11_tagOf_59 (by decide) (fun c59 => ?_) (fun c59 => ?_)
        · refine x_iload C dX11_tagOf_73 0 rfl ?_
          refine x_iload C dX11_tagOf_75 8 rfl ?_
          refine x_isubN C (by omega) dX11_tagOf_77 ?_
          refine x_iload C dX11_tagOf_78 11 rfl ?_
          refine x_icmp_geN (tgt := 97) C (by omega) (by omega) dX11_tagOf_80 (by decide) (fun c80 => ?_) (fun c80 => ?_)
          · refine x_iconst (v := nI 0) C dX11_tagOf_97 (by decide +kernel) ?_
            refine x_eqi (y := nI ((tolN am (fun j => byt (I a (ap + j))) m (fun j => byt (I x (f + j)))) t)) (by unfold tolN; rw [if_neg (by omega), if_neg (by omega), if_pos (by omega)]) ?_
            refine x_iastN C (mO.2.2 22 _ rfl).2.1 (mO.2.2 22 _ rfl).2.2 (by omega) (by omega) dX11_tagOf_98 (fun I1 eI1 => ?_)
            refine x_iinc (v := nI (t + 1)) (lv' := [(11, .int (nI (t + 1))), (10, .int (nI (((m + 15) / 16) * 16))), (0, .ref (A 63)), (1, .ref (A kq)), (2, .int (nI p)), (3, .int n), (4, .ref (A a)), (5, .int (nI ap)), (6, .int (nI am)), (7, .ref (A x)), (8, .int (nI f)), (9, .int (nI m))]) C dX11_tagOf_99 0 rfl (nI_inc 1) (Nat.lt_of_lt_of_eq (by decide) hN.symm) rfl ?_
            refine x_goto (tgt := 39) C dX11_tagOf_102 (by decide) ?_
            refine x_sub (lv' := _) [0, 1, 2, 3, 4, 5, 6, 7, 8, 9, 10, 11] rfl ?_
            exact ih39 (t + 1) I1 (by omega) (by omega) (g_ap (f := fun j => nI ((tolN am (fun j => byt (I a (ap + j))) m (fun j => byt (I x (f + j)))) j)) hJ (by rw [eI1, up_eq])) (fun j hj => by rw [eI1, up_ne _ _ (by decide)]; exact hkj j hj) (by rw [eI1]; exact fJ.up (by simp))
          · refine x_aload C dX11_tagOf_83 9 rfl ?_
            refine x_iload C dX11_tagOf_85 10 rfl ?_
            refine x_iload C dX11_tagOf_87 0 rfl ?_
            refine x_iaddN C dX11_tagOf_89 ?_
            refine x_iload C dX11_tagOf_90 8 rfl ?_
            refine x_isubN C (by omega) dX11_tagOf_92 ?_
            refine x_ialdN C hTx (by omega) (by omega) dX11_tagOf_93 ?_
            refine x_eqi (y := nI ((tolN am (fun j => byt (I a (ap + j))) m (fun j => byt (I x (f + j)))) t)) (by rw [fJ x (by simp [hx])]; unfold tolN; rw [if_neg (by omega), if_pos (by omega), show f + t - am = f + (t - am) by omega]; exact nI_byt _) ?_
            refine x_goto (tgt := 98) C dX11_tagOf_94 (by decide) ?_
            refine x_eqi (y := nI ((tolN am (fun j => byt (I a (ap + j))) m (fun j => byt (I x (f + j)))) t)) rfl ?_
            refine x_iastN C (mO.2.2 22 _ rfl).2.1 (mO.2.2 22 _ rfl).2.2 (by omega) (by omega) dX11_tagOf_98 (fun I2 eI2 => ?_)
            refine x_iinc (v := nI (t + 1)) (lv' := [(11, .int (nI (t + 1))), (10, .int (nI (((m + 15) / 16) * 16))), (0, .ref (A 63)), (1, .ref (A kq)), (2, .int (nI p)), (3, .int n), (4, .ref (A a)), (5, .int (nI ap)), (6, .int (nI am)), (7, .ref (A x)), (8, .int (nI f)), (9, .int (nI m))]) C dX11_tagOf_99 0 rfl (nI_inc 1) (Nat.lt_of_lt_of_eq (by decide) hN.symm) rfl ?_
            refine x_goto (tgt := 39) C dX11_tagOf_102 (by decide) ?_
            refine x_sub (lv' := _) [0, 1, 2, 3, 4, 5, 6, 7, 8, 9, 10, 11] rfl ?_
            exact ih39 (t + 1) I2 (by omega) (by omega) (g_ap (f := fun j => nI ((tolN am (fun j => byt (I a (ap + j))) m (fun j => byt (I x (f + j)))) j)) hJ (by rw [eI2, up_eq])) (fun j hj => by rw [eI2, up_ne _ _ (by decide)]; exact hkj j hj) (by rw [eI2]; exact fJ.up (by simp))
        · refine x_aload C dX11_tagOf_62 6 rfl ?_
          refine x_iload C dX11_tagOf_64 7 rfl ?_
          refine x_iload C dX11_tagOf_66 0 rfl ?_
          refine x_iaddN C dX11_tagOf_68 ?_
          refine x_ialdN C hTa (by omega) (by omega) dX11_tagOf_69 ?_
          refine x_eqi (y := nI ((tolN am (fun j => byt (I a (ap + j))) m (fun j => byt (I x (f + j)))) t)) (by rw [fJ a (by simp [ha])]; unfold tolN; rw [if_pos (by omega)]; exact nI_byt _) ?_
          refine x_goto (tgt := 98) C dX11_tagOf_70 (by decide) ?_
          refine x_eqi (y := nI ((tolN am (fun j => byt (I a (ap + j))) m (fun j => byt (I x (f + j)))) t)) rfl ?_
          refine x_iastN C (mO.2.2 22 _ rfl).2.1 (mO.2.2 22 _ rfl).2.2 (by omega) (by omega) dX11_tagOf_98 (fun I3 eI3 => ?_)
          refine x_iinc (v := nI (t + 1)) (lv' := [(11, .int (nI (t + 1))), (10, .int (nI (((m + 15) / 16) * 16))), (0, .ref (A 63)), (1, .ref (A kq)), (2, .int (nI p)), (3, .int n), (4, .ref (A a)), (5, .int (nI ap)), (6, .int (nI am)), (7, .ref (A x)), (8, .int (nI f)), (9, .int (nI m))]) C dX11_tagOf_99 0 rfl (nI_inc 1) (Nat.lt_of_lt_of_eq (by decide) hN.symm) rfl ?_
          refine x_goto (tgt := 39) C dX11_tagOf_102 (by decide) ?_
          refine x_sub (lv' := _) [0, 1, 2, 3, 4, 5, 6, 7, 8, 9, 10, 11] rfl ?_
          exact ih39 (t + 1) I3 (by omega) (by omega) (g_ap (f := fun j => nI ((tolN am (fun j => byt (I a (ap + j))) m (fun j => byt (I x (f + j)))) j)) hJ (by rw [eI3, up_eq])) (fun j hj => by rw [eI3, up_ne _ _ (by decide)]; exact hkj j hj) (by rw [eI3]; exact fJ.up (by simp))
  refine x_sub (lv' := _) [0, 1, 2, 3, 4, 5, 6, 7, 8, 9, 10, 11] rfl ?_
  exact L39 _ 0 K0 (Nat.lt_succ_self _) (by omega) (fun j h => absurd h (by omega)) hk0 fK0

