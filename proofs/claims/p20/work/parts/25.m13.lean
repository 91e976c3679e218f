/-! ===== ChaCha20 ===== -/
def cMix (f : Nat → Int32) (s b t k : Nat) : Nat → Int32 := upd (upd f s (f s + f b)) t (rot (upd f s (f s + f b) t ^^^ upd f s (f s + f b) s) (32 - k))
def cQ (f : Nat → Int32) (a b c d : Nat) : Nat → Int32 := cMix (cMix (cMix (cMix f a b d 16) c d b 12) a b d 8) c d b 7
def cRd (f : Nat → Int32) : Nat → Int32 := cQ (cQ (cQ (cQ (cQ (cQ (cQ (cQ f 0 4 8 12) 1 5 9 13) 2 6 10 14) 3 7 11 15) 0 5 10 15) 1 6 11 12) 2 7 8 13) 3 4 9 14
def cRs (f : Nat → Int32) : Nat → Nat → Int32
  | 0 => f
  | n + 1 => cRd (cRs f n)
def cBlk (s : Nat → Int32) (i : Nat) : Int32 := cRs s 10 i + s i
/-- byte k of the stream of a block -/
def cByt (m : Nat → Int32) (k : Nat) : Int32 := iusr (m (k / 4)) (nI (8 * (k % 4))) &&& nI 255
def cW (key : Nat → Int32) (k : Nat) : Int32 := key (4 * k) ||| isl (key (4 * k + 1)) (nI 8) ||| isl (key (4 * k + 2)) (nI 16) ||| isl (key (4 * k + 3)) (nI 24)
def cSt (key : Nat → Int32) (ctr n : Int32) (i : Nat) : Int32 := if i = 0 then nI 1634760805 else if i = 1 then nI 857760878 else if i = 2 then nI 2036477234 else if i = 3 then nI 1797285236 else if i < 12 then cW key (i - 4) else if i = 12 then ctr else if i = 14 then n else nI 0
/-- a stream block: the block of a key, a counter and a number -/
def cStr (key : Nat → Int32) (ctr n : Int32) (k : Nat) : Int32 := cByt (cBlk (cSt key ctr n)) k
theorem rot_or (x : Int32) {k : Nat} (h : k ≤ 32) : isl x (nI k) ||| iusr x (nI (32 - k)) = rot x (32 - k) := by
  unfold rot; rw [Int32.or_comm, show 32 - (32 - k) = k by omega]
theorem cMix_congr {f g : Nat → Int32} {s b t k : Nat} (h : ∀ i, i < 16 → f i = g i) (hs : s < 16) (hb : b < 16) (ht : t < 16) : ∀ i, i < 16 → cMix f s b t k i = cMix g s b t k i := by
  intro i hi
  simp only [cMix, upd]
  rw [h s hs, h b hb, h t ht, h i hi]
theorem cQ_congr {f g : Nat → Int32} {a b c d : Nat} (h : ∀ i, i < 16 → f i = g i) (ha : a < 16) (hb : b < 16) (hc : c < 16) (hd : d < 16) : ∀ i, i < 16 → cQ f a b c d i = cQ g a b c d i :=
  cMix_congr (cMix_congr (cMix_congr (cMix_congr h ha hb hd) hc hd hb) ha hb hd) hc hd hb
theorem cRd_congr {f g : Nat → Int32} (h : ∀ i, i < 16 → f i = g i) : ∀ i, i < 16 → cRd f i = cRd g i := by
  unfold cRd
  iterate 8 refine cQ_congr ?_ (by decide) (by decide) (by decide) (by decide)
  exact h
theorem cRs_congr {f g : Nat → Int32} (h : ∀ i, i < 16 → f i = g i) : ∀ n, ∀ i, i < 16 → cRs f n i = cRs g n i
  | 0 => h
  | n + 1 => cRd_congr (cRs_congr h n)
theorem cBlk_congr {f g : Nat → Int32} (h : ∀ i, i < 16 → f i = g i) : ∀ i, i < 16 → cBlk f i = cBlk g i := fun i hi => by
  unfold cBlk; rw [cRs_congr h 10 i hi, h i hi]
theorem cSt_congr {k k' : Nat → Int32} {c n : Int32} (h : ∀ i, i < 32 → k i = k' i) : cSt k c n = cSt k' c n := by
  funext i; unfold cSt cW
  by_cases h0 : i = 0
  · rw [if_pos h0, if_pos h0]
  by_cases h1 : i = 1
  · rw [if_neg h0, if_neg h0, if_pos h1, if_pos h1]
  by_cases h2 : i = 2
  · rw [if_neg h0, if_neg h0, if_neg h1, if_neg h1, if_pos h2, if_pos h2]
  by_cases h3 : i = 3
  · rw [if_neg h0, if_neg h0, if_neg h1, if_neg h1, if_neg h2, if_neg h2, if_pos h3, if_pos h3]
  rw [if_neg h0, if_neg h0, if_neg h1, if_neg h1, if_neg h2, if_neg h2, if_neg h3, if_neg h3]
  by_cases h4 : i < 12
  · rw [if_pos h4, if_pos h4, h (4 * (i - 4)) (by omega), h (4 * (i - 4) + 1) (by omega), h (4 * (i - 4) + 2) (by omega), h (4 * (i - 4) + 3) (by omega)]
  · rw [if_neg h4, if_neg h4]
set_option maxHeartbeats 4000000 in
set_option maxRecDepth 100000 in
theorem ok_X0_mix {l : Launch} {a0 : Nat} {D : va_G} {sa : Nat → Nat} {T : Nat → Option hKd} {I : Nat → Nat → Int32} {L : Nat → Nat → Int64} {R : Nat → Nat → Option Nat} {A : Nat → Nat} (xO : isX T R A a0) (hsa : ∀ k, k < 5 → sa k = A (90 + k)) (s b t k : Nat) (hs : s < 16) (hb : b < 16) (ht : t < 16) (hk : k ≤ 32) : hM l a0 D sa yX0_mix cX0_mix 6 none { frames := 0, cells := 0, slots := 0, locals := 0 } [.ref (A 132), .int (nI s), .int (nI b), .int (nI t), .int (nI k)] (T, I, L, R, A) (fun r G' => r = none ∧ G' = (T, va_up I 134 (cMix (I 134) s b t k), L, R, A)) := by
  refine hM.of (by decide +kernel) (Nat.le_of_ble_eq_true rfl) ?_
  intro z hl h0 hD hS hN C E
  subst hl; subst h0; subst hD; subst hS
  have C : hC z RX0 cX0_mix := C
  have hZ := E.2.2.2.1
  show hX z 0 0 (T, I, L, R, A) [(0, .ref (A 132)), (1, .int (nI s)), (2, .int (nI b)), (3, .int (nI t)), (4, .int (nI k))] 0 []
  refine x_aload_n C dX0_mix_0 0 rfl rfl ?_
  refine x_getrN C fl_X0_15 (xO.1 132 _ rfl).1 rfl (xO.2.1 132 1 _ rfl) dX0_mix_1 ?_
  refine x_iload_n C dX0_mix_4 1 rfl rfl ?_
  refine x_dup2 C dX0_mix_5 rfl rfl ?_
  refine x_ialdN C (xO.1 134 _ rfl).1 (by omega) (by omega) dX0_mix_6 ?_
  refine x_aload_n C dX0_mix_7 0 rfl rfl ?_
  refine x_getrN C fl_X0_15 (xO.1 132 _ rfl).1 rfl (xO.2.1 132 1 _ rfl) dX0_mix_8 ?_
  refine x_iload_n C dX0_mix_11 2 rfl rfl ?_
  refine x_ialdN C (xO.1 134 _ rfl).1 (by omega) (by omega) dX0_mix_12 ?_
  refine x_iadd C dX0_mix_13 ?_
  refine x_iastN C (xO.1 134 _ rfl).1 (xO.1 134 _ rfl).2 (by omega) (by omega) dX0_mix_14 (fun I1 eI1 => ?_)
  refine x_aload_n C dX0_mix_15 0 rfl rfl ?_
  refine x_getrN C fl_X0_15 (xO.1 132 _ rfl).1 rfl (xO.2.1 132 1 _ rfl) dX0_mix_16 ?_
  refine x_iload_n C dX0_mix_19 3 rfl rfl ?_
  refine x_ialdN C (xO.1 134 _ rfl).1 (by omega) (by omega) dX0_mix_20 ?_
  refine x_aload_n C dX0_mix_21 0 rfl rfl ?_
  refine x_getrN C fl_X0_15 (xO.1 132 _ rfl).1 rfl (xO.2.1 132 1 _ rfl) dX0_mix_22 ?_
  refine x_iload_n C dX0_mix_25 1 rfl rfl ?_
  refine x_ialdN C (xO.1 134 _ rfl).1 (by omega) (by omega) dX0_mix_26 ?_
  refine x_ixor C dX0_mix_27 ?_
  refine x_istore (lv' := [(5, .int ((I1 134 t) ^^^ (I1 134 s))), (0, .ref (A 132)), (1, .int (nI s)), (2, .int (nI b)), (3, .int (nI t)), (4, .int (nI k))]) C dX0_mix_28 (Nat.lt_of_lt_of_eq (by decide) hN.symm) rfl ?_
  refine x_aload_n C dX0_mix_30 1 rfl rfl ?_
  refine x_getrN C fl_X0_15 (xO.1 132 _ rfl).1 rfl (xO.2.1 132 1 _ rfl) dX0_mix_31 ?_
  refine x_iload_n C dX0_mix_34 4 rfl rfl ?_
  refine x_iload C dX0_mix_35 0 rfl ?_
  refine x_iload C dX0_mix_37 5 rfl ?_
  refine x_ishl C dX0_mix_39 ?_
  refine x_iload C dX0_mix_40 0 rfl ?_
  refine x_bipush (v := nI 32) C dX0_mix_42 (by decide +kernel) ?_
  refine x_iload C dX0_mix_44 5 rfl ?_
  refine x_isubN C (by omega) dX0_mix_46 ?_
  refine x_iushr C dX0_mix_47 ?_
  refine x_ior C dX0_mix_48 ?_
  refine x_iastN C (xO.1 134 _ rfl).1 (xO.1 134 _ rfl).2 (by omega) (by omega) dX0_mix_49 (fun I2 eI2 => ?_)
  exact x_vret C E (Nat.le_of_ble_eq_true rfl) (Nat.le_of_ble_eq_true rfl) dX0_mix_50 (⟨rfl, by rw [eI2, eI1]; simp only [up_eq, up_up]; rw [rot_or _ hk]; rfl⟩)

set_option maxHeartbeats 4000000 in
set_option maxRecDepth 100000 in
theorem ok_X0_quarter {l : Launch} {a0 : Nat} {D : va_G} {sa : Nat → Nat} {T : Nat → Option hKd} {I : Nat → Nat → Int32} {L : Nat → Nat → Int64} {R : Nat → Nat → Option Nat} {A : Nat → Nat} (xO : isX T R A a0) (hsa : ∀ k, k < 5 → sa k = A (90 + k)) (a b c d : Nat) (ha : a < 16) (hb : b < 16) (hc : c < 16) (hd : d < 16) : hM l a0 D sa yX0_quarter cX0_quarter 5 none { frames := 1, cells := 0, slots := 0, locals := 25 } [.ref (A 132), .int (nI a), .int (nI b), .int (nI c), .int (nI d)] (T, I, L, R, A) (fun r G' => r = none ∧ G' = (T, va_up I 134 (cQ (I 134) a b c d), L, R, A)) := by
  refine hM.of (by decide +kernel) (Nat.le_of_ble_eq_true rfl) ?_
  intro z hl h0 hD hS hN C E
  subst hl; subst h0; subst hD; subst hS
  have C : hC z RX0 cX0_quarter := C
  have hZ := E.2.2.2.1
  show hX z 0 0 (T, I, L, R, A) [(0, .ref (A 132)), (1, .int (nI a)), (2, .int (nI b)), (3, .int (nI c)), (4, .int (nI d))] 0 []
  refine x_aload_n C dX0_quarter_0 0 rfl rfl ?_
  refine x_iload_n C dX0_quarter_1 1 rfl rfl ?_
  refine x_iload_n C dX0_quarter_2 2 rfl rfl ?_
  refine x_iload C dX0_quarter_3 4 rfl ?_
  refine x_bipush (v := nI 16) C dX0_quarter_5 (by decide +kernel) ?_
  refine x_callV C (ok_X0_mix (I := I) xO hsa a b d 16 (by omega) (by omega) (by omega) (by decide)) mv_X0_mix ml_X0_98 (xO.1 132 _ rfl).1 rfl rfl rfl (Nat.le_of_ble_eq_true rfl) (hrm (rm := { frames := 0, cells := 0, slots := 0, locals := 0 }) hZ ⟨Nat.le_of_ble_eq_true rfl, Nat.le_of_ble_eq_true rfl⟩) (hcs hZ ⟨Nat.le_of_ble_eq_true rfl, Nat.le_of_ble_eq_true rfl⟩) dX0_quarter_7 (fun v G' hp => ?_)
  obtain ⟨rfl, rfl⟩ := hp
  try rw [up_eq, up_up]
  show hX z 0 0 (T, (va_up I 134 (cMix (I 134) a b d 16)), L, R, A) [(0, .ref (A 132)), (1, .int (nI a)), (2, .int (nI b)), (3, .int (nI c)), (4, .int (nI d))] 10 []
  refine x_aload_n C dX0_quarter_10 0 rfl rfl ?_
  refine x_iload_n C dX0_quarter_11 3 rfl rfl ?_
  refine x_iload C dX0_quarter_12 4 rfl ?_
  refine x_iload_n C dX0_quarter_14 2 rfl rfl ?_
  refine x_bipush (v := nI 12) C dX0_quarter_15 (by decide +kernel) ?_
  refine x_callV C (ok_X0_mix (I := (va_up I 134 (cMix (I 134) a b d 16))) xO hsa c d b 12 (by omega) (by omega) (by omega) (by decide)) mv_X0_mix ml_X0_98 (xO.1 132 _ rfl).1 rfl rfl rfl (Nat.le_of_ble_eq_true rfl) (hrm (rm := { frames := 0, cells := 0, slots := 0, locals := 0 }) hZ ⟨Nat.le_of_ble_eq_true rfl, Nat.le_of_ble_eq_true rfl⟩) (hcs hZ ⟨Nat.le_of_ble_eq_true rfl, Nat.le_of_ble_eq_true rfl⟩) dX0_quarter_17 (fun v G' hp => ?_)
  obtain ⟨rfl, rfl⟩ := hp
  try rw [up_eq, up_up]
  show hX z 0 0 (T, (va_up I 134 (cMix (cMix (I 134) a b d 16) c d b 12)), L, R, A) [(0, .ref (A 132)), (1, .int (nI a)), (2, .int (nI b)), (3, .int (nI c)), (4, .int (nI d))] 20 []
  refine x_aload_n C dX0_quarter_20 0 rfl rfl ?_
  refine x_iload_n C dX0_quarter_21 1 rfl rfl ?_
  refine x_iload_n C dX0_quarter_22 2 rfl rfl ?_
  refine x_iload C dX0_quarter_23 4 rfl ?_
  refine x_bipush (v := nI 8) C dX0_quarter_25 (by decide +kernel) ?_
  refine x_callV C (ok_X0_mix (I := (va_up I 134 (cMix (cMix (I 134) a b d 16) c d b 12))) xO hsa a b d 8 (by omega) (by omega) (by omega) (by decide)) mv_X0_mix ml_X0_98 (xO.1 132 _ rfl).1 rfl rfl rfl (Nat.le_of_ble_eq_true rfl) (hrm (rm := { frames := 0, cells := 0, slots := 0, locals := 0 }) hZ ⟨Nat.le_of_ble_eq_true rfl, Nat.le_of_ble_eq_true rfl⟩) (hcs hZ ⟨Nat.le_of_ble_eq_true rfl, Nat.le_of_ble_eq_true rfl⟩) dX0_quarter_27 (fun v G' hp => ?_)
  obtain ⟨rfl, rfl⟩ := hp
  try rw [up_eq, up_up]
  show hX z 0 0 (T, (va_up I 134 (cMix (cMix (cMix (I 134) a b d 16) c d b 12) a b d 8)), L, R, A) [(0, .ref (A 132)), (1, .int (nI a)), (2, .int (nI b)), (3, .int (nI c)), (4, .int (nI d))] 30 []
  refine x_aload_n C dX0_quarter_30 0 rfl rfl ?_
  refine x_iload_n C dX0_quarter_31 3 rfl rfl ?_
  refine x_iload C dX0_quarter_32 4 rfl ?_
  refine x_iload_n C dX0_quarter_34 2 rfl rfl ?_
  refine x_bipush (v := nI 7) C dX0_quarter_35 (by decide +kernel) ?_
  refine x_callV C (ok_X0_mix (I := (va_up I 134 (cMix (cMix (cMix (I 134) a b d 16) c d b 12) a b d 8))) xO hsa c d b 7 (by omega) (by omega) (by omega) (by decide)) mv_X0_mix ml_X0_98 (xO.1 132 _ rfl).1 rfl rfl rfl (Nat.le_of_ble_eq_true rfl) (hrm (rm := { frames := 0, cells := 0, slots := 0, locals := 0 }) hZ ⟨Nat.le_of_ble_eq_true rfl, Nat.le_of_ble_eq_true rfl⟩) (hcs hZ ⟨Nat.le_of_ble_eq_true rfl, Nat.le_of_ble_eq_true rfl⟩) dX0_quarter_37 (fun v G' hp => ?_)
  obtain ⟨rfl, rfl⟩ := hp
  try rw [up_eq, up_up]
  show hX z 0 0 (T, (va_up I 134 (cQ (I 134) a b c d)), L, R, A) [(0, .ref (A 132)), (1, .int (nI a)), (2, .int (nI b)), (3, .int (nI c)), (4, .int (nI d))] 40 []
  exact x_vret C E (Nat.le_of_ble_eq_true rfl) (Nat.le_of_ble_eq_true rfl) dX0_quarter_40 (⟨rfl, rfl⟩)

set_option maxHeartbeats 4000000 in
set_option maxRecDepth 100000 in
theorem ok_X11_quarter {l : Launch} {a0 : Nat} {D : va_G} {sa : Nat → Nat} {T : Nat → Option hKd} {I : Nat → Nat → Int32} {L : Nat → Nat → Int64} {R : Nat → Nat → Option Nat} {A : Nat → Nat} (mO : isM T R A a0) (a b c d : Nat) (ha : a < 16) (hb : b < 16) (hc : c < 16) (hd : d < 16) : hM l a0 D sa yX11_quarter cX11_quarter 5 none { frames := 1, cells := 0, slots := 0, locals := 21 } [.ref (A 63), .int (nI a), .int (nI b), .int (nI c), .int (nI d)] (T, I, L, R, A) (fun r G' => r = none ∧ G' = (T, va_up I 15 (cQ (I 15) a b c d), L, R, A)) := by
  refine hM.of (by decide +kernel) (Nat.le_of_ble_eq_true rfl) ?_
  intro z hl h0 hD hS hN C E
  subst hl; subst h0; subst hD; subst hS
  have C : hC z RX11 cX11_quarter := C
  have hZ := E.2.2.2.1
  show hX z 0 0 (T, I, L, R, A) [(0, .ref (A 63)), (1, .int (nI a)), (2, .int (nI b)), (3, .int (nI c)), (4, .int (nI d))] 0 []
  refine x_aload_n C dX11_quarter_0 0 rfl rfl ?_
  refine x_getrN C fl_X11_125 mO.1 rfl (mO.2.2 15 _ rfl).1 dX11_quarter_1 ?_
  refine x_iload_n C dX11_quarter_4 1 rfl rfl ?_
  refine x_dup2 C dX11_quarter_5 rfl rfl ?_
  refine x_ialdN C (mO.2.2 15 _ rfl).2.1 (by omega) (by omega) dX11_quarter_6 ?_
  refine x_aload_n C dX11_quarter_7 0 rfl rfl ?_
  refine x_getrN C fl_X11_125 mO.1 rfl (mO.2.2 15 _ rfl).1 dX11_quarter_8 ?_
  refine x_iload_n C dX11_quarter_11 2 rfl rfl ?_
  refine x_ialdN C (mO.2.2 15 _ rfl).2.1 (by omega) (by omega) dX11_quarter_12 ?_
  refine x_iadd C dX11_quarter_13 ?_
  refine x_iastN C (mO.2.2 15 _ rfl).2.1 (mO.2.2 15 _ rfl).2.2 (by omega) (by omega) dX11_quarter_14 (fun I1 eI1 => ?_)
  refine x_aload_n C dX11_quarter_15 0 rfl rfl ?_
  refine x_getrN C fl_X11_125 mO.1 rfl (mO.2.2 15 _ rfl).1 dX11_quarter_16 ?_
  refine x_iload C dX11_quarter_19 4 rfl ?_
  refine x_aload_n C dX11_quarter_21 0 rfl rfl ?_
  refine x_getrN C fl_X11_125 mO.1 rfl (mO.2.2 15 _ rfl).1 dX11_quarter_22 ?_
  refine x_iload C dX11_quarter_25 4 rfl ?_
  refine x_ialdN C (mO.2.2 15 _ rfl).2.1 (by omega) (by omega) dX11_quarter_27 ?_
  refine x_aload_n C dX11_quarter_28 0 rfl rfl ?_
  refine x_getrN C fl_X11_125 mO.1 rfl (mO.2.2 15 _ rfl).1 dX11_quarter_29 ?_
  refine x_iload_n C dX11_quarter_32 1 rfl rfl ?_
  refine x_ialdN C (mO.2.2 15 _ rfl).2.1 (by omega) (by omega) dX11_quarter_33 ?_
  refine x_ixor C dX11_quarter_34 ?_
  refine x_bipush (v := nI 16) C dX11_quarter_35 (by decide +kernel) ?_
  refine x_callS C (ok_turn ((I1 15 d) ^^^ (I1 15 a)) 16 (by decide)) ms_X11_turned ml_X11_263 rfl rfl (Nat.le_of_ble_eq_true rfl) (hrm (rm := { frames := 0, cells := 0, slots := 0, locals := 0 }) hZ ⟨Nat.le_of_ble_eq_true rfl, Nat.le_of_ble_eq_true rfl⟩) (hcs hZ ⟨Nat.le_of_ble_eq_true rfl, Nat.le_of_ble_eq_true rfl⟩) dX11_quarter_37 (fun v G' hp => ?_)
  obtain ⟨rfl, rfl⟩ := hp
  show hX z 0 0 (T, I1, L, R, A) [(0, .ref (A 63)), (1, .int (nI a)), (2, .int (nI b)), (3, .int (nI c)), (4, .int (nI d))] 40 [.int (rot ((I1 15 d) ^^^ (I1 15 a)) 16), .int (nI d), .ref (A 15)]
  refine x_iastN C (mO.2.2 15 _ rfl).2.1 (mO.2.2 15 _ rfl).2.2 (by omega) (by omega) dX11_quarter_40 (fun I2 eI2 => ?_)
  refine x_aload_n C dX11_quarter_41 0 rfl rfl ?_
  refine x_getrN C fl_X11_125 mO.1 rfl (mO.2.2 15 _ rfl).1 dX11_quarter_42 ?_
  refine x_iload_n C dX11_quarter_45 3 rfl rfl ?_
  refine x_dup2 C dX11_quarter_46 rfl rfl ?_
  refine x_ialdN C (mO.2.2 15 _ rfl).2.1 (by omega) (by omega) dX11_quarter_47 ?_
  refine x_aload_n C dX11_quarter_48 0 rfl rfl ?_
  refine x_getrN C fl_X11_125 mO.1 rfl (mO.2.2 15 _ rfl).1 dX11_quarter_49 ?_
  refine x_iload C dX11_quarter_52 4 rfl ?_
  refine x_ialdN C (mO.2.2 15 _ rfl).2.1 (by omega) (by omega) dX11_quarter_54 ?_
  refine x_iadd C dX11_quarter_55 ?_
  refine x_iastN C (mO.2.2 15 _ rfl).2.1 (mO.2.2 15 _ rfl).2.2 (by omega) (by omega) dX11_quarter_56 (fun I3 eI3 => ?_)
  refine x_aload_n C dX11_quarter_57 0 rfl rfl ?_
  refine x_getrN C fl_X11_125 mO.1 rfl (mO.2.2 15 _ rfl).1 dX11_quarter_58 ?_
  refine x_iload_n C dX11_quarter_61 2 rfl rfl ?_
  refine x_aload_n C dX11_quarter_62 0 rfl rfl ?_
  refine x_getrN C fl_X11_125 mO.1 rfl (mO.2.2 15 _ rfl).1 dX11_quarter_63 ?_
  refine x_iload_n C dX11_quarter_66 2 rfl rfl ?_
  refine x_ialdN C (mO.2.2 15 _ rfl).2.1 (by omega) (by omega) dX11_quarter_67 ?_
  refine x_aload_n C dX11_quarter_68 0 rfl rfl ?_
  refine x_getrN C fl_X11_125 mO.1 rfl (mO.2.2 15 _ rfl).1 dX11_quarter_69 ?_
  refine x_iload_n C dX11_quarter_72 3 rfl rfl ?_
  refine x_ialdN C (mO.2.2 15 _ rfl).2.1 (by omega) (by omega) dX11_quarter_73 ?_
  refine x_ixor C dX11_quarter_74 ?_
  refine x_bipush (v := nI 20) C dX11_quarter_75 (by decide +kernel) ?_
  refine x_callS C (ok_turn ((I3 15 b) ^^^ (I3 15 c)) 20 (by decide)) ms_X11_turned ml_X11_263 rfl rfl (Nat.le_of_ble_eq_true rfl) (hrm (rm := { frames := 0, cells := 0, slots := 0, locals := 0 }) hZ ⟨Nat.le_of_ble_eq_true rfl, Nat.le_of_ble_eq_true rfl⟩) (hcs hZ ⟨Nat.le_of_ble_eq_true rfl, Nat.le_of_ble_eq_true rfl⟩) dX11_quarter_77 (fun v G' hp => ?_)
  obtain ⟨rfl, rfl⟩ := hp
  show hX z 0 0 (T, I3, L, R, A) [(0, .ref (A 63)), (1, .int (nI a)), (2, .int (nI b)), (3, .int (nI c)), (4, .int (nI d))] 80 [.int (rot ((I3 15 b) ^^^ (I3 15 c)) 20), .int (nI b), .ref (A 15)]
  refine x_iastN C (mO.2.2 15 _ rfl).2.1 (mO.2.2 15 _ rfl).2.2 (by omega) (by omega) dX11_quarter_80 (fun I4 eI4 => ?_)
  refine x_aload_n C dX11_quarter_81 0 rfl rfl ?_
  refine x_getrN C fl_X11_125 mO.1 rfl (mO.2.2 15 _ rfl).1 dX11_quarter_82 ?_
  refine x_iload_n C dX11_quarter_85 1 rfl rfl ?_
  refine x_dup2 C dX11_quarter_86 rfl rfl ?_
  refine x_ialdN C (mO.2.2 15 _ rfl).2.1 (by omega) (by omega) dX11_quarter_87 ?_
  refine x_aload_n C dX11_quarter_88 0 rfl rfl ?_
  refine x_getrN C fl_X11_125 mO.1 rfl (mO.2.2 15 _ rfl).1 dX11_quarter_89 ?_
  refine x_iload_n C dX11_quarter_92 2 rfl rfl ?_
  refine x_ialdN C (mO.2.2 15 _ rfl).2.1 (by omega) (by omega) dX11_quarter_93 ?_
  refine x_iadd C dX11_quarter_94 ?_
  refine x_iastN C (mO.2.2 15 _ rfl).2.1 (mO.2.2 15 _ rfl).2.2 (by omega) (by omega) dX11_quarter_95 (fun I5 eI5 => ?_)
  refine x_aload_n C dX11_quarter_96 0 rfl rfl ?_
  refine x_getrN C fl_X11_125 mO.1 rfl (mO.2.2 15 _ rfl).1 dX11_quarter_97 ?_
  refine x_iload C dX11_quarter_100 4 rfl ?_
  refine x_aload_n C dX11_quarter_102 0 rfl rfl ?_
  refine x_getrN C fl_X11_125 mO.1 rfl (mO.2.2 15 _ rfl).1 dX11_quarter_103 ?_
  refine x_iload C dX11_quarter_106 4 rfl ?_
  refine x_ialdN C (mO.2.2 15 _ rfl).2.1 (by omega) (by omega) dX11_quarter_108 ?_
  refine x_aload_n C dX11_quarter_109 0 rfl rfl ?_
  refine x_getrN C fl_X11_125 mO.1 rfl (mO.2.2 15 _ rfl).1 dX11_quarter_110 ?_
  refine x_iload_n C dX11_quarter_113 1 rfl rfl ?_
  refine x_ialdN C (mO.2.2 15 _ rfl).2.1 (by omega) (by omega) dX11_quarter_114 ?_
  refine x_ixor C dX11_quarter_115 ?_
  refine x_bipush (v := nI 24) C dX11_quarter_116 (by decide +kernel) ?_
  refine x_callS C (ok_turn ((I5 15 d) ^^^ (I5 15 a)) 24 (by decide)) ms_X11_turned ml_X11_263 rfl rfl (Nat.le_of_ble_eq_true rfl) (hrm (rm := { frames := 0, cells := 0, slots := 0, locals := 0 }) hZ ⟨Nat.le_of_ble_eq_true rfl, Nat.le_of_ble_eq_true rfl⟩) (hcs hZ ⟨Nat.le_of_ble_eq_true rfl, Nat.le_of_ble_eq_true rfl⟩) dX11_quarter_118 (fun v G' hp => ?_)
  obtain ⟨rfl, rfl⟩ := hp
  show hX z 0 0 (T, I5, L, R, A) [(0, .ref (A 63)), (1, .int (nI a)), (2, .int (nI b)), (3, .int (nI c)), (4, .int (nI d))] 121 [.int (rot ((I5 15 d) ^^^ (I5 15 a)) 24), .int (nI d), .ref (A 15)]
  refine x_iastN C (mO.2.2 15 _ rfl).2.1 (mO.2.2 15 _ rfl).2.2 (by omega) (by omega) dX11_quarter_121 (fun I6 eI6 => ?_)
  refine x_aload_n C dX11_quarter_122 0 rfl rfl ?_
  refine x_getrN C fl_X11_125 mO.1 rfl (mO.2.2 15 _ rfl).1 dX11_quarter_123 ?_
  refine x_iload_n C dX11_quarter_126 3 rfl rfl ?_
  refine x_dup2 C dX11_quarter_127 rfl rfl ?_
  refine x_ialdN C (mO.2.2 15 _ rfl).2.1 (by omega) (by omega) dX11_quarter_128 ?_
  refine x_aload_n C dX11_quarter_129 0 rfl rfl ?_
  refine x_getrN C fl_X11_125 mO.1 rfl (mO.2.2 15 _ rfl).1 dX11_quarter_130 ?_
  refine x_iload C dX11_quarter_133 4 rfl ?_
  refine x_ialdN C (mO.2.2 15 _ rfl).2.1 (by omega) (by omega) dX11_quarter_135 ?_
  refine x_iadd C dX11_quarter_136 ?_
  refine x_iastN C (mO.2.2 15 _ rfl).2.1 (mO.2.2 15 _ rfl).2.2 (by omega) (by omega) dX11_quarter_137 (fun I7 eI7 => ?_)
  refine x_aload_n C dX11_quarter_138 0 rfl rfl ?_
  refine x_getrN C fl_X11_125 mO.1 rfl (mO.2.2 15 _ rfl).1 dX11_quarter_139 ?_
  refine x_iload_n C dX11_quarter_142 2 rfl rfl ?_
  refine x_aload_n C dX11_quarter_143 0 rfl rfl ?_
  refine x_getrN C fl_X11_125 mO.1 rfl (mO.2.2 15 _ rfl).1 dX11_quarter_144 ?_
  refine x_iload_n C dX11_quarter_147 2 rfl rfl ?_
  refine x_ialdN C (mO.2.2 15 _ rfl).2.1 (by omega) (by omega) dX11_quarter_148 ?_
  refine x_aload_n C dX11_quarter_149 0 rfl rfl ?_
  refine x_getrN C fl_X11_125 mO.1 rfl (mO.2.2 15 _ rfl).1 dX11_quarter_150 ?_
  refine x_iload_n C dX11_quarter_153 3 rfl rfl ?_
  refine x_ialdN C (mO.2.2 15 _ rfl).2.1 (by omega) (by omega) dX11_quarter_154 ?_
  refine x_ixor C dX11_quarter_155 ?_
  refine x_bipush (v := nI 25) C dX11_quarter_156 (by decide +kernel) ?_
  refine x_callS C (ok_turn ((I7 15 b) ^^^ (I7 15 c)) 25 (by decide)) ms_X11_turned ml_X11_263 rfl rfl (Nat.le_of_ble_eq_true rfl) (hrm (rm := { frames := 0, cells := 0, slots := 0, locals := 0 }) hZ ⟨Nat.le_of_ble_eq_true rfl, Nat.le_of_ble_eq_true rfl⟩) (hcs hZ ⟨Nat.le_of_ble_eq_true rfl, Nat.le_of_ble_eq_true rfl⟩) dX11_quarter_158 (fun v G' hp => ?_)
  obtain ⟨rfl, rfl⟩ := hp
  show hX z 0 0 (T, I7, L, R, A) [(0, .ref (A 63)), (1, .int (nI a)), (2, .int (nI b)), (3, .int (nI c)), (4, .int (nI d))] 161 [.int (rot ((I7 15 b) ^^^ (I7 15 c)) 25), .int (nI b), .ref (A 15)]
  refine x_iastN C (mO.2.2 15 _ rfl).2.1 (mO.2.2 15 _ rfl).2.2 (by omega) (by omega) dX11_quarter_161 (fun I8 eI8 => ?_)
  exact x_vret C E (Nat.le_of_ble_eq_true rfl) (Nat.le_of_ble_eq_true rfl) dX11_quarter_162 (⟨rfl, by rw [eI8, eI7, eI6, eI5, eI4, eI3, eI2, eI1]; simp only [up_eq, up_up]; rfl⟩)

