/-- the two keys out of a chaining key and a text -/
def keyT (c x : Nat → Int32) (n : Nat) : Nat → Int32 := hmac c x n
def key1 (c x : Nat → Int32) (n : Nat) : Nat → Int32 := hmac (keyT c x n) (fun _ => nI 1) 1
def key2 (c x : Nat → Int32) (n : Nat) : Nat → Int32 := hmac (keyT c x n) (fun i => if i < 32 then key1 c x n i else nI 2) 33
/-- SECRET of two numbers -/
def secM (v j : Int32) (i : Nat) : Int32 := if i < 4 then iusr v (nI (24 - 8 * i)) &&& nI 255 else iusr j (nI (24 - 8 * (i - 4))) &&& nI 255
def secF (v j : Int32) : Nat → Int32 := shaH (secM v j) 8
/-- MIX HASH -/
def mixF (h x : Nat → Int32) (n : Nat) : Nat → Int32 := shaH (hmC h x 32) (32 + n)
theorem mixF_congr {h h' x x' : Nat → Int32} {n : Nat} (e1 : ∀ i, i < 32 → h i = h' i) (e2 : ∀ i, i < n → x i = x' i) : mixF h x n = mixF h' x' n := by
  unfold mixF; apply shaH_congr; intro i hi; unfold hmC
  by_cases c : i < 32
  · rw [if_pos c, if_pos c, e1 i c]
  · rw [if_neg c, if_neg c, e2 _ (by omega)]
set_option maxHeartbeats 4000000 in
set_option maxRecDepth 100000 in
theorem ok_X11_keys {l : Launch} {a0 : Nat} {D : va_G} {sa : Nat → Nat} {T : Nat → Option hKd} {I : Nat → Nat → Int32} {L : Nat → Nat → Int64} {R : Nat → Nat → Option Nat} {A : Nat → Nat} (mO : isM T R A a0) (c nc p x nx n : Nat) (h4 : ∀ t, t < 8 → I 4 t = fSha t) (h5 : ∀ t, t < 64 → I 5 t = kSha t) (hTc : T c = some (.inl (.int, nc))) (hnc : nc < 2 ^ 31) (hpc : p + 32 ≤ nc) (hc0 : c ≠ 0 ∧ c ≠ 2 ∧ c ≠ 3 ∧ c ≠ 6 ∧ c ≠ 63) (hTx : T x = some (.inl (.int, nx))) (hnx : nx < 2 ^ 31) (hxn : n ≤ nx) (hn3 : n ≤ 300) (hx0 : x ≠ 0) (hx63 : x ≠ 63) : hM l a0 D sa yX11_keys cX11_keys 5 none { frames := 4, cells := 0, slots := 0, locals := 107 } [.ref (A 63), .ref (A c), .int (nI p), .ref (A x), .int (nI n)] (T, I, L, R, A) (fun r G' => r = none ∧ ∃ I', G' = (T, I', L, R, A) ∧ (∀ i, i < 32 → I' 8 i = key1 (fun i => I c (p + i)) (fun i => I x i) n i) ∧ (∀ i, i < 32 → I' 9 i = key2 (fun i => I c (p + i)) (fun i => I x i) n i) ∧ fmS [0, 2, 3, 6, 7, 8, 9] I I') := by
  refine hM.of (by decide +kernel) (Nat.le_of_ble_eq_true rfl) ?_
  intro z hl h0 hD hS hN C E
  subst hl; subst h0; subst hD; subst hS
  have C : hC z RX11 cX11_keys := C
  have hZ := E.2.2.2.1
  show hX z 0 0 (T, I, L, R, A) [(0, .ref (A 63)), (1, .ref (A c)), (2, .int (nI p)), (3, .ref (A x)), (4, .int (nI n))] 0 []
  refine x_aload_n C dX11_keys_0 0 rfl rfl ?_
  refine x_aload_n C dX11_keys_1 1 rfl rfl ?_
  refine x_iload_n C dX11_keys_2 2 rfl rfl ?_
  refine x_aload_n C dX11_keys_3 3 rfl rfl ?_
  refine x_iconst (v := nI 0) C dX11_keys_4 (by decide +kernel) ?_
  refine x_iload C dX11_keys_5 4 rfl ?_
  refine x_aload_n C dX11_keys_7 0 rfl rfl ?_
  refine x_getrN C fl_X11_100 mO.1 rfl (mO.2.2 7 _ rfl).1 dX11_keys_8 ?_
  refine x_iconst (v := nI 0) C dX11_keys_11 (by decide +kernel) ?_
  refine x_callV C (ok_X11_mac mO c nc p x nx 0 n 7 32 0 h4 h5 hTc hnc hpc hc0 hTx hnx (by omega) hn3 hx0 hx63 (mO.2.2 7 _ rfl).2.1 (by decide) (mO.2.2 7 _ rfl).2.2 (by decide) ⟨by decide, by decide, by decide, by decide, by decide⟩) mv_X11_mac ml_X11_282 mO.1 rfl rfl rfl (Nat.le_of_ble_eq_true rfl) (hrm (rm := { frames := 0, cells := 0, slots := 0, locals := 0 }) hZ ⟨Nat.le_of_ble_eq_true rfl, Nat.le_of_ble_eq_true rfl⟩) (hcs hZ ⟨Nat.le_of_ble_eq_true rfl, Nat.le_of_ble_eq_true rfl⟩) dX11_keys_12 (fun v G' hp => ?_)
  obtain ⟨rfl, J1, rfl, i1, f1⟩ := hp
  have k1 : ∀ i, i < 32 → J1 7 i = keyT (fun i => I c (p + i)) (fun i => I x i) n i := fun i hi => by rw [i1]; dsimp only; rw [if_pos (by omega), Nat.sub_zero]; exact congrFun (hmac_congr (fun _ _ => rfl) (fun _ _ => by rw [Nat.zero_add])) i
  show hX z 0 0 (T, J1, L, R, A) [(0, .ref (A 63)), (1, .ref (A c)), (2, .int (nI p)), (3, .ref (A x)), (4, .int (nI n))] 15 []
  refine x_aload_n C dX11_keys_15 0 rfl rfl ?_
  refine x_getrN C fl_X11_103 mO.1 rfl (mO.2.2 8 _ rfl).1 dX11_keys_16 ?_
  refine x_iconst (v := nI 0) C dX11_keys_19 (by decide +kernel) ?_
  refine x_iconst (v := nI 1) C dX11_keys_20 (by decide +kernel) ?_
  refine x_iastN C (mO.2.2 8 _ rfl).2.1 (mO.2.2 8 _ rfl).2.2 (by omega) (by omega) dX11_keys_21 (fun I1 eI1 => ?_)
  have g1 : fmS [0, 2, 3, 6, 7, 8, 9] I I1 := by rw [eI1]; exact (f1.wk (by simp)).up (by simp) (by decide)
  refine x_aload_n C dX11_keys_22 0 rfl rfl ?_
  refine x_aload_n C dX11_keys_23 0 rfl rfl ?_
  refine x_getrN C fl_X11_100 mO.1 rfl (mO.2.2 7 _ rfl).1 dX11_keys_24 ?_
  refine x_iconst (v := nI 0) C dX11_keys_27 (by decide +kernel) ?_
  refine x_aload_n C dX11_keys_28 0 rfl rfl ?_
  refine x_getrN C fl_X11_103 mO.1 rfl (mO.2.2 8 _ rfl).1 dX11_keys_29 ?_
  refine x_iconst (v := nI 0) C dX11_keys_32 (by decide +kernel) ?_
  refine x_iconst (v := nI 1) C dX11_keys_33 (by decide +kernel) ?_
  refine x_aload_n C dX11_keys_34 0 rfl rfl ?_
  refine x_getrN C fl_X11_103 mO.1 rfl (mO.2.2 8 _ rfl).1 dX11_keys_35 ?_
  refine x_iconst (v := nI 0) C dX11_keys_38 (by decide +kernel) ?_
  refine x_callV C (ok_X11_mac mO 7 32 0 8 33 0 1 8 33 0 (fun t ht => by rw [g1.1 4 (by simp) (by decide)]; exact h4 t ht) (fun t ht => by rw [g1.1 5 (by simp) (by decide)]; exact h5 t ht) (mO.2.2 7 _ rfl).2.1 (by decide) (by decide) ⟨by decide, by decide, by decide, by decide, by decide⟩ (mO.2.2 8 _ rfl).2.1 (by decide) (by decide) (by decide) (by decide) (by decide) (mO.2.2 8 _ rfl).2.1 (by decide) (mO.2.2 8 _ rfl).2.2 (by decide) ⟨by decide, by decide, by decide, by decide, by decide⟩) mv_X11_mac ml_X11_282 mO.1 rfl rfl rfl (Nat.le_of_ble_eq_true rfl) (hrm (rm := { frames := 0, cells := 0, slots := 0, locals := 0 }) hZ ⟨Nat.le_of_ble_eq_true rfl, Nat.le_of_ble_eq_true rfl⟩) (hcs hZ ⟨Nat.le_of_ble_eq_true rfl, Nat.le_of_ble_eq_true rfl⟩) dX11_keys_39 (fun v G' hp => ?_)
  obtain ⟨rfl, J2, rfl, i2, f2⟩ := hp
  have k2 : ∀ i, i < 32 → J2 8 i = key1 (fun i => I c (p + i)) (fun i => I x i) n i := fun i hi => by rw [i2]; dsimp only; rw [if_pos (by omega), Nat.sub_zero]; exact congrFun (hmac_congr (fun i hi => by rw [eI1, up_ne _ _ (by decide), Nat.zero_add, k1 i hi]) (fun i hi => by rw [eI1, up_eq, show 0 + i = 0 by omega, pk_us])) i
  have g2 : fmS [0, 2, 3, 6, 7, 8, 9] I J2 := g1.tr f2 (by simp)
  have k7 : ∀ i, i < 32 → J2 7 i = keyT (fun i => I c (p + i)) (fun i => I x i) n i := fun i hi => by rw [f2.1 7 (by decide) (by decide), eI1, up_ne _ _ (by decide), k1 i hi]
  show hX z 0 0 (T, J2, L, R, A) [(0, .ref (A 63)), (1, .ref (A c)), (2, .int (nI p)), (3, .ref (A x)), (4, .int (nI n))] 42 []
  refine x_aload_n C dX11_keys_42 0 rfl rfl ?_
  refine x_getrN C fl_X11_103 mO.1 rfl (mO.2.2 8 _ rfl).1 dX11_keys_43 ?_
  refine x_bipush (v := nI 32) C dX11_keys_46 (by decide +kernel) ?_
  refine x_iconst (v := nI 2) C dX11_keys_48 (by decide +kernel) ?_
  refine x_iastN C (mO.2.2 8 _ rfl).2.1 (mO.2.2 8 _ rfl).2.2 (by omega) (by omega) dX11_keys_49 (fun I2 eI2 => ?_)
  have g3 : fmS [0, 2, 3, 6, 7, 8, 9] I I2 := by rw [eI2]; exact g2.up (by simp) (by decide)
  refine x_aload_n C dX11_keys_50 0 rfl rfl ?_
  refine x_aload_n C dX11_keys_51 0 rfl rfl ?_
  refine x_getrN C fl_X11_100 mO.1 rfl (mO.2.2 7 _ rfl).1 dX11_keys_52 ?_
  refine x_iconst (v := nI 0) C dX11_keys_55 (by decide +kernel) ?_
  refine x_aload_n C dX11_keys_56 0 rfl rfl ?_
  refine x_getrN C fl_X11_103 mO.1 rfl (mO.2.2 8 _ rfl).1 dX11_keys_57 ?_
  refine x_iconst (v := nI 0) C dX11_keys_60 (by decide +kernel) ?_
  refine x_bipush (v := nI 33) C dX11_keys_61 (by decide +kernel) ?_
  refine x_aload_n C dX11_keys_63 0 rfl rfl ?_
  refine x_getrN C fl_X11_106 mO.1 rfl (mO.2.2 9 _ rfl).1 dX11_keys_64 ?_
  refine x_iconst (v := nI 0) C dX11_keys_67 (by decide +kernel) ?_
  refine x_callV C (ok_X11_mac mO 7 32 0 8 33 0 33 9 32 0 (fun t ht => by rw [g3.1 4 (by simp) (by decide)]; exact h4 t ht) (fun t ht => by rw [g3.1 5 (by simp) (by decide)]; exact h5 t ht) (mO.2.2 7 _ rfl).2.1 (by decide) (by decide) ⟨by decide, by decide, by decide, by decide, by decide⟩ (mO.2.2 8 _ rfl).2.1 (by decide) (by decide) (by decide) (by decide) (by decide) (mO.2.2 9 _ rfl).2.1 (by decide) (mO.2.2 9 _ rfl).2.2 (by decide) ⟨by decide, by decide, by decide, by decide, by decide⟩) mv_X11_mac ml_X11_282 mO.1 rfl rfl rfl (Nat.le_of_ble_eq_true rfl) (hrm (rm := { frames := 0, cells := 0, slots := 0, locals := 0 }) hZ ⟨Nat.le_of_ble_eq_true rfl, Nat.le_of_ble_eq_true rfl⟩) (hcs hZ ⟨Nat.le_of_ble_eq_true rfl, Nat.le_of_ble_eq_true rfl⟩) dX11_keys_68 (fun v G' hp => ?_)
  obtain ⟨rfl, J3, rfl, i3, f3⟩ := hp
  have k3 : ∀ i, i < 32 → J3 9 i = key2 (fun i => I c (p + i)) (fun i => I x i) n i := fun i hi => by rw [i3]; dsimp only; rw [if_pos (by omega), Nat.sub_zero]; exact congrFun (hmac_congr (fun i hi => by rw [eI2, up_ne _ _ (by decide), Nat.zero_add, k7 i hi]) (fun i hi => by rw [eI2, up_eq, Nat.zero_add]; unfold upd; by_cases c32 : i = 32 <;> first | (rw [if_pos c32, if_neg (by omega)]; done) | rw [if_neg c32, if_pos (by omega), k2 i (by omega)])) i
  have k4 : ∀ i, i < 32 → J3 8 i = key1 (fun i => I c (p + i)) (fun i => I x i) n i := fun i hi => by rw [f3.1 8 (by decide) (by decide), eI2, up_eq, pk_un (by omega), k2 i hi]
  show hX z 0 0 (T, J3, L, R, A) [(0, .ref (A 63)), (1, .ref (A c)), (2, .int (nI p)), (3, .ref (A x)), (4, .int (nI n))] 71 []
  exact x_vret C E (Nat.le_of_ble_eq_true rfl) (Nat.le_of_ble_eq_true rfl) dX11_keys_71 (⟨rfl, J3, rfl, k4, k3, g3.tr f3 (by simp)⟩)

set_option maxHeartbeats 4000000 in
set_option maxRecDepth 100000 in
theorem ok_X11_mixHash {l : Launch} {a0 : Nat} {D : va_G} {sa : Nat → Nat} {T : Nat → Option hKd} {I : Nat → Nat → Int32} {L : Nat → Nat → Int64} {R : Nat → Nat → Option Nat} {A : Nat → Nat} (mO : isM T R A a0) (s x nx p n : Nat) (h4 : ∀ t, t < 8 → I 4 t = fSha t) (h5 : ∀ t, t < 64 → I 5 t = kSha t) (hs : s < 5) (hTx : T x = some (.inl (.int, nx))) (hnx : nx < 2 ^ 31) (hpn : p + n ≤ nx) (hn3 : n ≤ 300) (hx0 : x ≠ 0) (hx63 : x ≠ 63) : hM l a0 D sa yX11_mixHash cX11_mixHash 5 none { frames := 3, cells := 0, slots := 0, locals := 79 } [.ref (A 63), .int (nI s), .ref (A x), .int (nI p), .int (nI n)] (T, I, L, R, A) (fun r G' => r = none ∧ ∃ I', G' = (T, I', L, R, A) ∧ I' 48 = (fun j => if 32 * s ≤ j ∧ j < 32 * s + 32 then mixF (fun i => I 48 (32 * s + i)) (fun i => I x (p + i)) n (j - 32 * s) else I 48 j) ∧ fmS [0, 2, 3, 48] I I') := by
  refine hM.of (by decide +kernel) (Nat.le_of_ble_eq_true rfl) ?_
  intro z hl h0 hD hS hN C E
  subst hl; subst h0; subst hD; subst hS
  have C : hC z RX11 cX11_mixHash := C
  have hZ := E.2.2.2.1
  show hX z 0 0 (T, I, L, R, A) [(0, .ref (A 63)), (1, .int (nI s)), (2, .ref (A x)), (3, .int (nI p)), (4, .int (nI n))] 0 []
  refine x_aload_n C dX11_mixHash_0 0 rfl rfl ?_
  refine x_iconst (v := nI 0) C dX11_mixHash_1 (by decide +kernel) ?_
  refine x_putiN C fl_X11_255 mO.1 mO.2.1 rfl dX11_mixHash_2 (fun I1 eI1 => ?_)
  refine x_aload_n C dX11_mixHash_5 0 rfl rfl ?_
  refine x_aload_n C dX11_mixHash_6 0 rfl rfl ?_
  refine x_getrN C fl_X11_219 mO.1 rfl (mO.2.2 48 _ rfl).1 dX11_mixHash_7 ?_
  refine x_bipush (v := nI 32) C dX11_mixHash_10 (by decide +kernel) ?_
  refine x_iload_n C dX11_mixHash_12 1 rfl rfl ?_
  refine x_imulN C dX11_mixHash_13 ?_
  refine x_bipush (v := nI 32) C dX11_mixHash_14 (by decide +kernel) ?_
  refine x_callV C (ok_X11_lays mO 48 160 (32 * s) 32 0 (by rw [eI1, up_eq, pk_us]) (mO.2.2 48 _ rfl).2.1 (by decide) (by omega) (by decide) (by decide)) mv_X11_lays ml_X11_274 mO.1 rfl rfl rfl (Nat.le_of_ble_eq_true rfl) (hrm (rm := { frames := 0, cells := 0, slots := 0, locals := 0 }) hZ ⟨Nat.le_of_ble_eq_true rfl, Nat.le_of_ble_eq_true rfl⟩) (hcs hZ ⟨Nat.le_of_ble_eq_true rfl, Nat.le_of_ble_eq_true rfl⟩) dX11_mixHash_16 (fun v G' hp => ?_)
  obtain ⟨rfl, rfl⟩ := hp
  generalize hK1 : va_up (va_up I1 0 _) 63 _ = K1
  have e1 : ∀ i, i < 32 → K1 0 i = (fun i => I 48 (32 * s + i)) i := fun i hi => by rw [← hK1, up_ne _ _ (by decide), up_eq]; dsimp only; rw [if_pos (by omega), Nat.sub_zero, eI1, up_ne _ _ (by decide)]
  have b1 : K1 63 1 = nI 32 := by rw [← hK1, up_eq, pk_us]
  have g1 : fmS [0] I K1 := by rw [← hK1, eI1]; exact ⟨fun q h1 h2 => by simp at h1; rw [up_ne _ _ h2, up_ne _ _ h1, up_ne _ _ h2], fun j hj => by rw [up_eq, pk_un hj, up_eq, pk_un hj]⟩
  show hX z 0 0 (T, K1, L, R, A) [(0, .ref (A 63)), (1, .int (nI s)), (2, .ref (A x)), (3, .int (nI p)), (4, .int (nI n))] 19 []
  refine x_aload_n C dX11_mixHash_19 0 rfl rfl ?_
  refine x_aload_n C dX11_mixHash_20 2 rfl rfl ?_
  refine x_iload_n C dX11_mixHash_21 3 rfl rfl ?_
  refine x_iload C dX11_mixHash_22 4 rfl ?_
  refine x_callV C (ok_X11_lays mO x nx p n 32 b1 hTx hnx hpn (by omega) hx0) mv_X11_lays ml_X11_274 mO.1 rfl rfl rfl (Nat.le_of_ble_eq_true rfl) (hrm (rm := { frames := 0, cells := 0, slots := 0, locals := 0 }) hZ ⟨Nat.le_of_ble_eq_true rfl, Nat.le_of_ble_eq_true rfl⟩) (hcs hZ ⟨Nat.le_of_ble_eq_true rfl, Nat.le_of_ble_eq_true rfl⟩) dX11_mixHash_24 (fun v G' hp => ?_)
  obtain ⟨rfl, rfl⟩ := hp
  generalize hK2 : va_up (va_up K1 0 _) 63 _ = K2
  have e2 : ∀ i, i < 32 + n → K2 0 i = hmC (fun i => I 48 (32 * s + i)) (fun i => I x (p + i)) 32 i := fun i hi => by
    rw [← hK2, up_ne _ _ (by decide), up_eq]; unfold hmC; dsimp only
    by_cases c : i < 32
    · rw [if_neg (by omega), if_pos c, e1 i c]
    · rw [if_pos (by omega), if_neg c, g1.1 x (by simp [hx0]) hx63]
  have b2 : K2 63 1 = nI (32 + n) := by rw [← hK2, up_eq, pk_us]
  have g2 : fmS [0] I K2 := ⟨fun q h1 h2 => by simp at h1; rw [← hK2, up_ne _ _ h2, up_ne _ _ h1]; exact g1.1 q (by simp [h1]) h2, fun j hj => by rw [← hK2, up_eq, pk_un hj]; exact g1.2 j hj⟩
  show hX z 0 0 (T, K2, L, R, A) [(0, .ref (A 63)), (1, .int (nI s)), (2, .ref (A x)), (3, .int (nI p)), (4, .int (nI n))] 27 []
  refine x_aload_n C dX11_mixHash_27 0 rfl rfl ?_
  refine x_aload_n C dX11_mixHash_28 0 rfl rfl ?_
  refine x_getrN C fl_X11_219 mO.1 rfl (mO.2.2 48 _ rfl).1 dX11_mixHash_29 ?_
  refine x_bipush (v := nI 32) C dX11_mixHash_32 (by decide +kernel) ?_
  refine x_iload_n C dX11_mixHash_34 1 rfl rfl ?_
  refine x_imulN C dX11_mixHash_35 ?_
  refine x_callV C (ok_X11_hashes mO (32 + n) 48 160 (32 * s) b2 (by omega) (fun t ht => by rw [g2.1 4 (by simp) (by decide)]; exact h4 t ht) (fun t ht => by rw [g2.1 5 (by simp) (by decide)]; exact h5 t ht) (mO.2.2 48 _ rfl).2.1 (mO.2.2 48 _ rfl).2.2 (by omega) (by decide) ⟨by decide, by decide⟩) mv_X11_hashes ml_X11_278 mO.1 rfl rfl rfl (Nat.le_of_ble_eq_true rfl) (hrm (rm := { frames := 0, cells := 0, slots := 0, locals := 0 }) hZ ⟨Nat.le_of_ble_eq_true rfl, Nat.le_of_ble_eq_true rfl⟩) (hcs hZ ⟨Nat.le_of_ble_eq_true rfl, Nat.le_of_ble_eq_true rfl⟩) dX11_mixHash_36 (fun v G' hp => ?_)
  obtain ⟨rfl, K3, rfl, i3, r3⟩ := hp
  show hX z 0 0 (T, K3, L, R, A) [(0, .ref (A 63)), (1, .int (nI s)), (2, .ref (A x)), (3, .int (nI p)), (4, .int (nI n))] 39 []
  exact x_vret C E (Nat.le_of_ble_eq_true rfl) (Nat.le_of_ble_eq_true rfl) dX11_mixHash_39 (⟨rfl, K3, rfl, by rw [i3, shaH_congr e2, g2.1 48 (by simp) (by decide)]; rfl, fun q h1 h2 => by simp at h1; rw [r3 q h1.2.1 h1.2.2.1 h1.2.2.2]; exact g2.1 q (by simp [h1.1]) h2, fun j hj => by rw [r3 63 (by decide) (by decide) (by decide)]; exact g2.2 j hj⟩)

