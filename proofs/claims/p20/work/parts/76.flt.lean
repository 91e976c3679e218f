/-! ===== a pattern's fault ===== -/
def nbt (n k : Nat) : Bool := decide (n / 2 ^ k % 2 = 1)
def ndT (t : Nat) : Nat := ([0, 0, 3, 9, 6, 12] : List Nat).getD t 0
/-- the fault of a token: t by the hand h, with the keys kb, the DHs done dn -/
def fAt (t h kb dn : Nat) : Nat := if t ≤ 1 then (if nbt kb (2 * t + h) then 2 else 6) else if kb &&& ndT t = ndT t then (if nbt dn t then 4 else 6) else 3
def stsB (h dn : Nat) : Bool := (nbt dn (if h = 0 then 4 else 3) && !nbt dn 2) || (nbt dn 5 && !nbt dn (if h = 0 then 3 else 4))
/-- lowest, keys, done -/
abbrev jS : Type := Nat × Nat × Nat
def stp (h t : Nat) (q : jS) : jS := (min q.1 (fAt t h q.2.1 q.2.2), if t ≤ 1 then q.2.1 ||| 2 ^ (2 * t + h) else q.2.1, if t ≤ 1 then q.2.2 else q.2.2 ||| 2 ^ t)
def tkS (h : Nat) (tk : Nat → Nat) (q : jS) : Nat → jS
  | 0 => q
  | k + 1 => stp h (tk k) (tkS h tk q k)
def endS (h : Nat) (q : jS) : jS := (if stsB h q.2.2 then min q.1 5 else q.1, q.2.1, q.2.2)
def mgS (kn : Nat → Bool) (sz : Nat → Nat) (tk : Nat → Nat → Nat) : Nat → jS
  | 0 => (6, (if kn 0 then 4 else 0) ||| (if kn 1 then 8 else 0), 0)
  | m + 1 => endS (m % 2) (tkS (m % 2) (tk m) (mgS kn sz tk m) (sz m))
def lowF (n : Nat) : Nat := if n = 6 then 0 else n
/-- f is the fault of the pattern -/
def isF (kn : Nat → Bool) (ms : Nat) (sz : Nat → Nat) (tk : Nat → Nat → Nat) (f : Nat) : Prop := ((ms = 0 ∨ ∃ m, m < ms ∧ sz m = 0) ∧ f = 1) ∨ (¬ (ms = 0 ∨ ∃ m, m < ms ∧ sz m = 0) ∧ f = lowF (mgS kn sz tk ms).1)
theorem isF.uniq {kn : Nat → Bool} {ms : Nat} {sz : Nat → Nat} {tk : Nat → Nat → Nat} {f g : Nat} (h : isF kn ms sz tk f) (k : isF kn ms sz tk g) : f = g := by
  rcases h with h | h <;> rcases k with k | k
  · rw [h.2, k.2]
  · exact absurd h.1 k.1
  · exact absurd k.1 h.1
  · rw [h.2, k.2]
theorem or_16 : ∀ a, a < 16 → ∀ b, b < 16 → a ||| b < 16 := by decide +kernel
theorem or_64 : ∀ a, a < 64 → ∀ b, b < 64 → a ||| b < 64 := by decide +kernel
theorem orI : ∀ a, a < 64 → ∀ b, b < 64 → nI a ||| nI b = nI (a ||| b) := by decide +kernel
theorem kbI : ∀ t, t ≤ 1 → ∀ h, h < 2 → isl (nI 1) (nI (2 * t + h)) = nI (2 ^ (2 * t + h)) := by decide +kernel
theorem shI : ∀ t, t ≤ 5 → isl (nI 1) (nI t) = nI (2 ^ t) := by decide +kernel
theorem diI : ∀ d, d < 64 → ∀ t, t < 6 → (isr (nI d) (nI t) &&& nI 1 = nI 1 ↔ nbt d t = true) := by decide +kernel
theorem kaI : ∀ k, k < 16 → ∀ t, t ≤ 1 → ∀ h, h < 2 → (nI k &&& nI (2 ^ (2 * t + h)) = 0 ↔ nbt k (2 * t + h) = false) := by decide +kernel
theorem naI : ∀ k, k < 16 → ∀ t, t < 6 → (nI k &&& nI (ndT t) = nI (ndT t) ↔ k &&& ndT t = ndT t) := by decide +kernel
theorem p2_16 : ∀ t, t ≤ 1 → ∀ h, h < 2 → 2 ^ (2 * t + h) < 16 := by decide +kernel
theorem p2_64 : ∀ t, t ≤ 5 → 2 ^ t < 64 := by decide +kernel
theorem ndT_t : ∀ t, t < 6 → ([0, 0, 3, 9, 6, 12] : List Int32).getD t 0 = nI (ndT t) := by decide +kernel
def okJ (q : jS) : Prop := q.1 ≤ 6 ∧ q.2.1 < 16 ∧ q.2.2 < 64
theorem fAt_6 (t h kb dn : Nat) : fAt t h kb dn ≤ 6 := by
  unfold fAt; split <;> split <;> first | omega | (split <;> omega)
theorem stp_ok {h t : Nat} {q : jS} (hh : h < 2) (ht : t ≤ 5) (o : okJ q) : okJ (stp h t q) := by
  refine ⟨Nat.le_trans (Nat.min_le_left _ _) o.1, ?_, ?_⟩
  · show (if t ≤ 1 then _ else _) < 16
    split
    · exact or_16 _ o.2.1 _ (p2_16 t (by omega) h hh)
    · exact o.2.1
  · show (if t ≤ 1 then _ else _) < 64
    split
    · exact o.2.2
    · exact or_64 _ o.2.2 _ (p2_64 t ht)
theorem tkS_ok {h : Nat} {tk : Nat → Nat} {q : jS} (hh : h < 2) (ht : ∀ k, tk k ≤ 5) (o : okJ q) (k : Nat) : okJ (tkS h tk q k) := by
  induction k with
  | zero => exact o
  | succ k ih => exact stp_ok hh (ht k) ih
theorem endS_ok {h : Nat} {q : jS} (o : okJ q) : okJ (endS h q) := by
  refine ⟨?_, o.2⟩
  show (if stsB h q.2.2 then min q.1 5 else q.1) ≤ 6
  have := o.1
  split <;> omega
theorem mgS_ok {kn : Nat → Bool} {sz : Nat → Nat} {tk : Nat → Nat → Nat} (ht : ∀ m k, tk m k ≤ 5) (m : Nat) : okJ (mgS kn sz tk m) := by
  induction m with
  | zero => refine ⟨Nat.le_refl _, ?_, by show 0 < 64; decide⟩; show (if kn 0 then 4 else 0) ||| (if kn 1 then 8 else 0) < 16; cases kn 0 <;> cases kn 1 <;> decide
  | succ m ih => exact endS_ok (tkS_ok (by omega) (ht m) ih _)
set_option maxHeartbeats 4000000 in
set_option maxRecDepth 100000 in
theorem ok_X3_keyBit {l : Launch} {a0 : Nat} {D : va_G} {sa : Nat → Nat} {T : Nat → Option hKd} {I : Nat → Nat → Int32} {L : Nat → Nat → Int64} {R : Nat → Nat → Option Nat} {A : Nat → Nat} (t h : Nat) (ht : t ≤ 1) (hh : h < 2) : hM l a0 D sa yX3_keyBit cX3_keyBit 2 (some .int) { frames := 0, cells := 0, slots := 0, locals := 0 } [.int (nI t), .int (nI h)] (T, I, L, R, A) (fun r G' => r = some (.int (nI (2 ^ (2 * t + h)))) ∧ G' = (T, I, L, R, A)) := by
  refine hM.of (by decide +kernel) (Nat.le_of_ble_eq_true rfl) ?_
  intro z hl h0 hD hS hN C E
  subst hl; subst h0; subst hD; subst hS
  have C : hC z RX3 cX3_keyBit := C
  have hZ := E.2.2.2.1
  show hX z 0 0 (T, I, L, R, A) [(0, .int (nI t)), (1, .int (nI h))] 0 []
  refine x_iconst (v := nI 1) C dX3_keyBit_0 (by decide +kernel) ?_
  refine x_iconst (v := nI 2) C dX3_keyBit_1 (by decide +kernel) ?_
  refine x_iload_n C dX3_keyBit_2 0 rfl rfl ?_
  refine x_imulN C dX3_keyBit_3 ?_
  refine x_iload_n C dX3_keyBit_4 1 rfl rfl ?_
  refine x_iaddN C dX3_keyBit_5 ?_
  refine x_ishl C dX3_keyBit_6 ?_
  exact x_iret C E (Nat.le_of_ble_eq_true rfl) (Nat.le_of_ble_eq_true rfl) dX3_keyBit_7 (⟨by rw [kbI t ht h hh], rfl⟩)

set_option maxHeartbeats 4000000 in
set_option maxRecDepth 100000 in
theorem ok_X3_did {l : Launch} {a0 : Nat} {D : va_G} {sa : Nat → Nat} {T : Nat → Option hKd} {I : Nat → Nat → Int32} {L : Nat → Nat → Int64} {R : Nat → Nat → Option Nat} {A : Nat → Nat} (d t : Nat) (hd : d < 64) (ht : t < 6) : hM l a0 D sa yX3_did cX3_did 2 (some .boolean) { frames := 0, cells := 0, slots := 0, locals := 0 } [.int (nI d), .int (nI t)] (T, I, L, R, A) (fun r G' => r = some (.int (bI (nbt d t))) ∧ G' = (T, I, L, R, A)) := by
  refine hM.of (by decide +kernel) (Nat.le_of_ble_eq_true rfl) ?_
  intro z hl h0 hD hS hN C E
  subst hl; subst h0; subst hD; subst hS
  have C : hC z RX3 cX3_did := C
  have hZ := E.2.2.2.1
  show hX z 0 0 (T, I, L, R, A) [(0, .int (nI d)), (1, .int (nI t))] 0 []
  refine x_iload_n C dX3_did_0 0 rfl rfl ?_
  refine x_iload_n C dX3_did_1 1 rfl rfl ?_
  refine x_ishr C dX3_did_2 ?_
  refine x_iconst (v := nI 1) C dX3_did_3 (by decide +kernel) ?_
  refine x_iand C dX3_did_4 ?_
  refine x_iconst (v := nI 1) C dX3_did_5 (by decide +kernel) ?_
  refine x_icmp_ne (tgt := 13) C dX3_did_6 (by decide) (fun c6 => ?_) (fun c6 => ?_)
  · refine x_iconst (v := nI 0) C dX3_did_13 (by decide +kernel) ?_
    exact x_zret C E (by first | exact Or.inl rfl | exact Or.inr rfl | assumption) (Nat.le_of_ble_eq_true rfl) (Nat.le_of_ble_eq_true rfl) dX3_did_14 (⟨by rw [Bool.eq_false_iff.mpr (fun e => c6 ((diI d hd t ht).mpr e))]; rfl, rfl⟩)
  · refine x_iconst (v := nI 1) C dX3_did_9 (by decide +kernel) ?_
    refine x_goto (tgt := 14) C dX3_did_10 (by decide) ?_
    exact x_zret C E (by first | exact Or.inl rfl | exact Or.inr rfl | assumption) (Nat.le_of_ble_eq_true rfl) (Nat.le_of_ble_eq_true rfl) dX3_did_14 (⟨by rw [(diI d hd t ht).mp c6]; rfl, rfl⟩)

set_option maxHeartbeats 4000000 in
set_option maxRecDepth 100000 in
theorem ok_X3_faultAt {l : Launch} {a0 : Nat} {D : va_G} {sa : Nat → Nat} {T : Nat → Option hKd} {I : Nat → Nat → Int32} {L : Nat → Nat → Int64} {R : Nat → Nat → Option Nat} {A : Nat → Nat} (hsa : ∀ k, k < 5 → sa k = A (90 + k)) (hT90 : T 90 = some (.inl (.int, 6))) (h90 : ∀ t, t < 6 → I 90 t = ([0, 0, 3, 9, 6, 12] : List Int32).getD t 0) (t h kb dn : Nat) (ht : t ≤ 5) (hh : h < 2) (hkb : kb < 16) (hdn : dn < 64) : hM l a0 D sa yX3_faultAt cX3_faultAt 4 (some .int) { frames := 1, cells := 0, slots := 0, locals := 21 } [.int (nI t), .int (nI h), .int (nI kb), .int (nI dn)] (T, I, L, R, A) (fun r G' => r = some (.int (nI (fAt t h kb dn))) ∧ G' = (T, I, L, R, A)) := by
  refine hM.of (by decide +kernel) (Nat.le_of_ble_eq_true rfl) ?_
  intro z hl h0 hD hS hN C E
  subst hl; subst h0; subst hD; subst hS
  have C : hC z RX3 cX3_faultAt := C
  have hZ := E.2.2.2.1
  show hX z 0 0 (T, I, L, R, A) [(0, .int (nI t)), (1, .int (nI h)), (2, .int (nI kb)), (3, .int (nI dn))] 0 []
  refine x_iload_n C dX3_faultAt_0 0 rfl rfl ?_
  refine x_if_eqN (tgt := 9) C (by omega) dX3_faultAt_1 (by decide) (fun c1 => ?_) (fun c1 => ?_)
  · refine x_iload_n C dX3_faultAt_9 2 rfl rfl ?_
    refine x_iload_n C dX3_faultAt_10 0 rfl rfl ?_
    refine x_iload_n C dX3_faultAt_11 1 rfl rfl ?_
    refine x_callS C (ok_X3_keyBit t h (by omega) (by omega)) ms_X3_keyBit ml_X3_55 rfl rfl (Nat.le_of_ble_eq_true rfl) (hrm (rm := { frames := 0, cells := 0, slots := 0, locals := 0 }) hZ ⟨Nat.le_of_ble_eq_true rfl, Nat.le_of_ble_eq_true rfl⟩) (hcs hZ ⟨Nat.le_of_ble_eq_true rfl, Nat.le_of_ble_eq_true rfl⟩) dX3_faultAt_12 (fun v G' hp => ?_)
    obtain ⟨rfl, rfl⟩ := hp
    show hX z 0 0 (T, I, L, R, A) [(0, .int (nI t)), (1, .int (nI h)), (2, .int (nI kb)), (3, .int (nI dn))] 15 [.int (nI (2 ^ (2 * t + h))), .int (nI kb)]
    refine x_iand C dX3_faultAt_15 ?_
    refine x_if_eq (tgt := 23) C dX3_faultAt_16 (by decide) (fun c16 => ?_) (fun c16 => ?_)
    · refine x_bipush (v := nI 6) C dX3_faultAt_23 (by decide +kernel) ?_
      exact x_iret C E (Nat.le_of_ble_eq_true rfl) (Nat.le_of_ble_eq_true rfl) dX3_faultAt_25 (⟨by unfold fAt; rw [if_pos (by omega), if_neg (by rw [(kaI kb hkb t (by omega) h hh).mp c16]; decide)], rfl⟩)
    · refine x_iconst (v := nI 2) C dX3_faultAt_19 (by decide +kernel) ?_
      refine x_goto (tgt := 25) C dX3_faultAt_20 (by decide) ?_
      exact x_iret C E (Nat.le_of_ble_eq_true rfl) (Nat.le_of_ble_eq_true rfl) dX3_faultAt_25 (⟨by unfold fAt; rw [if_pos (by omega), if_pos (by by_cases e : nbt kb (2 * t + h) = true; exact e; exact absurd ((kaI kb hkb t (by omega) h hh).mpr (by simpa using e)) c16)], rfl⟩)
  · refine x_iload_n C dX3_faultAt_4 0 rfl rfl ?_
    refine x_iconst (v := nI 1) C dX3_faultAt_5 (by decide +kernel) ?_
    refine x_icmp_neN (tgt := 26) C (by omega) (by omega) dX3_faultAt_6 (by decide) (fun c6 => ?_) (fun c6 => ?_)
    · refine x_iload_n C dX3_faultAt_26 2 rfl rfl ?_
      refine x_getsN (k := 0) C (hsa 0 (by decide)) rfl sl_X3_62 dX3_faultAt_27 ?_
      refine x_iload_n C dX3_faultAt_30 0 rfl rfl ?_
      refine x_ialdN C hT90 (by omega) (by omega) dX3_faultAt_31 ?_
      refine x_eqi (y := nI (ndT t)) ((h90 t (by omega)).trans (ndT_t t (by omega))) ?_
      refine x_iand C dX3_faultAt_32 ?_
      refine x_getsN (k := 0) C (hsa 0 (by decide)) rfl sl_X3_62 dX3_faultAt_33 ?_
      refine x_iload_n C dX3_faultAt_36 0 rfl rfl ?_
      refine x_ialdN C hT90 (by omega) (by omega) dX3_faultAt_37 ?_
      refine x_eqi (y := nI (ndT t)) ((h90 t (by omega)).trans (ndT_t t (by omega))) ?_
      refine x_icmp_eq (tgt := 43) C dX3_faultAt_38 (by decide) (fun c38 => ?_) (fun c38 => ?_)
      · refine x_iload_n C dX3_faultAt_43 3 rfl rfl ?_
        refine x_iload_n C dX3_faultAt_44 0 rfl rfl ?_
        refine x_callS C (ok_X3_did dn t (by omega) (by omega)) ms_X3_did ml_X3_65 rfl rfl (Nat.le_of_ble_eq_true rfl) (hrm (rm := { frames := 0, cells := 0, slots := 0, locals := 0 }) hZ ⟨Nat.le_of_ble_eq_true rfl, Nat.le_of_ble_eq_true rfl⟩) (hcs hZ ⟨Nat.le_of_ble_eq_true rfl, Nat.le_of_ble_eq_true rfl⟩) dX3_faultAt_45 (fun v G' hp => ?_)
        obtain ⟨rfl, rfl⟩ := hp
        show hX z 0 0 (T, I, L, R, A) [(0, .int (nI t)), (1, .int (nI h)), (2, .int (nI kb)), (3, .int (nI dn))] 48 [.int (bI (nbt dn t))]
        refine x_if_eq (tgt := 55) C dX3_faultAt_48 (by decide) (fun c48 => ?_) (fun c48 => ?_)
        · refine x_bipush (v := nI 6) C dX3_faultAt_55 (by decide +kernel) ?_
          exact x_iret C E (Nat.le_of_ble_eq_true rfl) (Nat.le_of_ble_eq_true rfl) dX3_faultAt_57 (⟨by unfold fAt; rw [if_neg (by omega), if_pos ((naI kb hkb t (by omega)).mp c38), if_neg (by rw [bI_F c48]; decide)], rfl⟩)
        · refine x_iconst (v := nI 4) C dX3_faultAt_51 (by decide +kernel) ?_
          refine x_goto (tgt := 57) C dX3_faultAt_52 (by decide) ?_
          exact x_iret C E (Nat.le_of_ble_eq_true rfl) (Nat.le_of_ble_eq_true rfl) dX3_faultAt_57 (⟨by unfold fAt; rw [if_neg (by omega), if_pos ((naI kb hkb t (by omega)).mp c38), if_pos (bI_T c48)], rfl⟩)
      · refine x_iconst (v := nI 3) C dX3_faultAt_41 (by decide +kernel) ?_
        exact x_iret C E (Nat.le_of_ble_eq_true rfl) (Nat.le_of_ble_eq_true rfl) dX3_faultAt_42 (⟨by unfold fAt; rw [if_neg (by omega), if_neg (fun e => c38 ((naI kb hkb t (by omega)).mpr e))], rfl⟩)
    · refine x_iload_n C dX3_faultAt_9 2 rfl rfl ?_
      refine x_iload_n C dX3_faultAt_10 0 rfl rfl ?_
      refine x_iload_n C dX3_faultAt_11 1 rfl rfl ?_
      refine x_callS C (ok_X3_keyBit t h (by omega) (by omega)) ms_X3_keyBit ml_X3_55 rfl rfl (Nat.le_of_ble_eq_true rfl) (hrm (rm := { frames := 0, cells := 0, slots := 0, locals := 0 }) hZ ⟨Nat.le_of_ble_eq_true rfl, Nat.le_of_ble_eq_true rfl⟩) (hcs hZ ⟨Nat.le_of_ble_eq_true rfl, Nat.le_of_ble_eq_true rfl⟩) dX3_faultAt_12 (fun v G' hp => ?_)
      obtain ⟨rfl, rfl⟩ := hp
      show hX z 0 0 (T, I, L, R, A) [(0, .int (nI t)), (1, .int (nI h)), (2, .int (nI kb)), (3, .int (nI dn))] 15 [.int (nI (2 ^ (2 * t + h))), .int (nI kb)]
      refine x_iand C dX3_faultAt_15 ?_
      refine x_if_eq (tgt := 23) C dX3_faultAt_16 (by decide) (fun c16 => ?_) (fun c16 => ?_)
      · refine x_bipush (v := nI 6) C dX3_faultAt_23 (by decide +kernel) ?_
        exact x_iret C E (Nat.le_of_ble_eq_true rfl) (Nat.le_of_ble_eq_true rfl) dX3_faultAt_25 (⟨by unfold fAt; rw [if_pos (by omega), if_neg (by rw [(kaI kb hkb t (by omega) h hh).mp c16]; decide)], rfl⟩)
      · refine x_iconst (v := nI 2) C dX3_faultAt_19 (by decide +kernel) ?_
        refine x_goto (tgt := 25) C dX3_faultAt_20 (by decide) ?_
        exact x_iret C E (Nat.le_of_ble_eq_true rfl) (Nat.le_of_ble_eq_true rfl) dX3_faultAt_25 (⟨by unfold fAt; rw [if_pos (by omega), if_pos (by by_cases e : nbt kb (2 * t + h) = true; exact e; exact absurd ((kaI kb hkb t (by omega) h hh).mpr (by simpa using e)) c16)], rfl⟩)

set_option maxHeartbeats 4000000 in
set_option maxRecDepth 100000 in
theorem ok_X3_sealsTooSoon {l : Launch} {a0 : Nat} {D : va_G} {sa : Nat → Nat} {T : Nat → Option hKd} {I : Nat → Nat → Int32} {L : Nat → Nat → Int64} {R : Nat → Nat → Option Nat} {A : Nat → Nat} (h dn : Nat) (hh : h < 2) (hdn : dn < 64) : hM l a0 D sa yX3_sealsTooSoon cX3_sealsTooSoon 4 (some .boolean) { frames := 1, cells := 0, slots := 0, locals := 21 } [.int (nI h), .int (nI dn)] (T, I, L, R, A) (fun r G' => r = some (.int (bI (stsB h dn))) ∧ G' = (T, I, L, R, A)) := by
  refine hM.of (by decide +kernel) (Nat.le_of_ble_eq_true rfl) ?_
  intro z hl h0 hD hS hN C E
  subst hl; subst h0; subst hD; subst hS
  have C : hC z RX3 cX3_sealsTooSoon := C
  have hZ := E.2.2.2.1
  show hX z 0 0 (T, I, L, R, A) [(0, .int (nI h)), (1, .int (nI dn))] 0 []
  have J9 : ∀ (x : Nat), (x = if h = 0 then 4 else 3) → hX z 0 0 (T, I, L, R, A) [(0, .int (nI h)), (1, .int (nI dn))] 9 [.int (nI x)] := by
    intro x hx
    refine x_istore_n (lv' := [(2, .int (nI x)), (0, .int (nI h)), (1, .int (nI dn))]) C dX3_sealsTooSoon_9 rfl (Nat.lt_of_lt_of_eq (by decide) hN.symm) rfl ?_
    have J19 : ∀ (y : Nat), (y = if h = 0 then 3 else 4) → hX z 0 0 (T, I, L, R, A) [(2, .int (nI x)), (0, .int (nI h)), (1, .int (nI dn))] 19 [.int (nI y)] := by
      intro y hy
      have hx5 : x < 6 := by rw [hx]; split <;> decide
      have hy5 : y < 6 := by rw [hy]; split <;> decide
      refine x_istore_n (lv' := [(3, .int (nI y)), (2, .int (nI x)), (0, .int (nI h)), (1, .int (nI dn))]) C dX3_sealsTooSoon_19 rfl (Nat.lt_of_lt_of_eq (by decide) hN.symm) rfl ?_
      refine x_iload_n C dX3_sealsTooSoon_20 3 rfl rfl ?_
      refine x_iload_n C dX3_sealsTooSoon_21 1 rfl rfl ?_
      refine x_callS C (ok_X3_did dn x (by omega) (by omega)) ms_X3_did ml_X3_65 rfl rfl (Nat.le_of_ble_eq_true rfl) (hrm (rm := { frames := 0, cells := 0, slots := 0, locals := 0 }) hZ ⟨Nat.le_of_ble_eq_true rfl, Nat.le_of_ble_eq_true rfl⟩) (hcs hZ ⟨Nat.le_of_ble_eq_true rfl, Nat.le_of_ble_eq_true rfl⟩) dX3_sealsTooSoon_22 (fun v G' hp => ?_)
      obtain ⟨rfl, rfl⟩ := hp
      show hX z 0 0 (T, I, L, R, A) [(3, .int (nI y)), (2, .int (nI x)), (0, .int (nI h)), (1, .int (nI dn))] 25 [.int (bI (nbt dn x))]
      refine x_if_eq (tgt := 36) C dX3_sealsTooSoon_25 (by decide) (fun c25 => ?_) (fun c25 => ?_)
      · refine x_iload_n C dX3_sealsTooSoon_36 3 rfl rfl ?_
        refine x_iconst (v := nI 5) C dX3_sealsTooSoon_37 (by decide +kernel) ?_
        refine x_callS C (ok_X3_did dn 5 (by omega) (by omega)) ms_X3_did ml_X3_65 rfl rfl (Nat.le_of_ble_eq_true rfl) (hrm (rm := { frames := 0, cells := 0, slots := 0, locals := 0 }) hZ ⟨Nat.le_of_ble_eq_true rfl, Nat.le_of_ble_eq_true rfl⟩) (hcs hZ ⟨Nat.le_of_ble_eq_true rfl, Nat.le_of_ble_eq_true rfl⟩) dX3_sealsTooSoon_38 (fun v G' hp => ?_)
        obtain ⟨rfl, rfl⟩ := hp
        show hX z 0 0 (T, I, L, R, A) [(3, .int (nI y)), (2, .int (nI x)), (0, .int (nI h)), (1, .int (nI dn))] 41 [.int (bI (nbt dn 5))]
        refine x_if_eq (tgt := 56) C dX3_sealsTooSoon_41 (by decide) (fun c41 => ?_) (fun c41 => ?_)
        · refine x_iconst (v := nI 0) C dX3_sealsTooSoon_56 (by decide +kernel) ?_
          exact x_zret C E (by first | exact Or.inl rfl | exact Or.inr rfl | assumption) (Nat.le_of_ble_eq_true rfl) (Nat.le_of_ble_eq_true rfl) dX3_sealsTooSoon_57 (⟨by unfold stsB; rw [← hx, ← hy]; first | (rw [bI_F c25, bI_F c41]; rfl) | (rw [bI_F c25, bI_T c49]; simp [bI]) | (rw [bI_T c33, bI_F c41]; simp [bI]) | (rw [bI_T c33, bI_T c49]; simp [bI]), rfl⟩)
        · refine x_iload_n C dX3_sealsTooSoon_44 3 rfl rfl ?_
          refine x_iload_n C dX3_sealsTooSoon_45 0 rfl rfl ?_
          refine x_callS C (ok_X3_did dn y (by omega) (by omega)) ms_X3_did ml_X3_65 rfl rfl (Nat.le_of_ble_eq_true rfl) (hrm (rm := { frames := 0, cells := 0, slots := 0, locals := 0 }) hZ ⟨Nat.le_of_ble_eq_true rfl, Nat.le_of_ble_eq_true rfl⟩) (hcs hZ ⟨Nat.le_of_ble_eq_true rfl, Nat.le_of_ble_eq_true rfl⟩) dX3_sealsTooSoon_46 (fun v G' hp => ?_)
          obtain ⟨rfl, rfl⟩ := hp
          show hX z 0 0 (T, I, L, R, A) [(3, .int (nI y)), (2, .int (nI x)), (0, .int (nI h)), (1, .int (nI dn))] 49 [.int (bI (nbt dn y))]
          refine x_if_ne (tgt := 56) C dX3_sealsTooSoon_49 (by decide) (fun c49 => ?_) (fun c49 => ?_)
          · refine x_iconst (v := nI 0) C dX3_sealsTooSoon_56 (by decide +kernel) ?_
            exact x_zret C E (by first | exact Or.inl rfl | exact Or.inr rfl | assumption) (Nat.le_of_ble_eq_true rfl) (Nat.le_of_ble_eq_true rfl) dX3_sealsTooSoon_57 (⟨by unfold stsB; rw [← hx, ← hy]; first | (rw [bI_F c25, bI_F c41]; rfl) | (rw [bI_F c25, bI_T c49]; simp [bI]) | (rw [bI_T c33, bI_F c41]; simp [bI]) | (rw [bI_T c33, bI_T c49]; simp [bI]), rfl⟩)
          · refine x_iconst (v := nI 1) C dX3_sealsTooSoon_52 (by decide +kernel) ?_
            refine x_goto (tgt := 57) C dX3_sealsTooSoon_53 (by decide) ?_
            exact x_zret C E (by first | exact Or.inl rfl | exact Or.inr rfl | assumption) (Nat.le_of_ble_eq_true rfl) (Nat.le_of_ble_eq_true rfl) dX3_sealsTooSoon_57 (⟨by unfold stsB; rw [← hx, ← hy]; first | (rw [bI_T c25, bI_F c33]; rfl) | (rw [bI_T c41, bI_F c49]; simp [bI]), rfl⟩)
      · refine x_iload_n C dX3_sealsTooSoon_28 3 rfl rfl ?_
        refine x_iconst (v := nI 2) C dX3_sealsTooSoon_29 (by decide +kernel) ?_
        refine x_callS C (ok_X3_did dn 2 (by omega) (by omega)) ms_X3_did ml_X3_65 rfl rfl (Nat.le_of_ble_eq_true rfl) (hrm (rm := { frames := 0, cells := 0, slots := 0, locals := 0 }) hZ ⟨Nat.le_of_ble_eq_true rfl, Nat.le_of_ble_eq_true rfl⟩) (hcs hZ ⟨Nat.le_of_ble_eq_true rfl, Nat.le_of_ble_eq_true rfl⟩) dX3_sealsTooSoon_30 (fun v G' hp => ?_)
        obtain ⟨rfl, rfl⟩ := hp
        show hX z 0 0 (T, I, L, R, A) [(3, .int (nI y)), (2, .int (nI x)), (0, .int (nI h)), (1, .int (nI dn))] 33 [.int (bI (nbt dn 2))]
        refine x_if_eq (tgt := 52) C dX3_sealsTooSoon_33 (by decide) (fun c33 => ?_) (fun c33 => ?_)
        · refine x_iconst (v := nI 1) C dX3_sealsTooSoon_52 (by decide +kernel) ?_
          refine x_goto (tgt := 57) C dX3_sealsTooSoon_53 (by decide) ?_
          exact x_zret C E (by first | exact Or.inl rfl | exact Or.inr rfl | assumption) (Nat.le_of_ble_eq_true rfl) (Nat.le_of_ble_eq_true rfl) dX3_sealsTooSoon_57 (⟨by unfold stsB; rw [← hx, ← hy]; first | (rw [bI_T c25, bI_F c33]; rfl) | (rw [bI_T c41, bI_F c49]; simp [bI]), rfl⟩)
        · refine x_iload_n C dX3_sealsTooSoon_36 3 rfl rfl ?_
          refine x_iconst (v := nI 5) C dX3_sealsTooSoon_37 (by decide +kernel) ?_
          refine x_callS C (ok_X3_did dn 5 (by omega) (by omega)) ms_X3_did ml_X3_65 rfl rfl (Nat.le_of_ble_eq_true rfl) (hrm (rm := { frames := 0, cells := 0, slots := 0, locals := 0 }) hZ ⟨Nat.le_of_ble_eq_true rfl, Nat.le_of_ble_eq_true rfl⟩) (hcs hZ ⟨Nat.le_of_ble_eq_true rfl, Nat.le_of_ble_eq_true rfl⟩) dX3_sealsTooSoon_38 (fun v G' hp => ?_)
          obtain ⟨rfl, rfl⟩ := hp
          show hX z 0 0 (T, I, L, R, A) [(3, .int (nI y)), (2, .int (nI x)), (0, .int (nI h)), (1, .int (nI dn))] 41 [.int (bI (nbt dn 5))]
          refine x_if_eq (tgt := 56) C dX3_sealsTooSoon_41 (by decide) (fun c41 => ?_) (fun c41 => ?_)
          · refine x_iconst (v := nI 0) C dX3_sealsTooSoon_56 (by decide +kernel) ?_
            exact x_zret C E (by first | exact Or.inl rfl | exact Or.inr rfl | assumption) (Nat.le_of_ble_eq_true rfl) (Nat.le_of_ble_eq_true rfl) dX3_sealsTooSoon_57 (⟨by unfold stsB; rw [← hx, ← hy]; first | (rw [bI_F c25, bI_F c41]; rfl) | (rw [bI_F c25, bI_T c49]; simp [bI]) | (rw [bI_T c33, bI_F c41]; simp [bI]) | (rw [bI_T c33, bI_T c49]; simp [bI]), rfl⟩)
          · refine x_iload_n C dX3_sealsTooSoon_44 3 rfl rfl ?_
            refine x_iload_n C dX3_sealsTooSoon_45 0 rfl rfl ?_
            refine x_callS C (ok_X3_did dn y (by omega) (by omega)) ms_X3_did ml_X3_65 rfl rfl (Nat.le_of_ble_eq_true rfl) (hrm (rm := { frames := 0, cells := 0, slots := 0, locals := 0 }) hZ ⟨Nat.le_of_ble_eq_true rfl, Nat.le_of_ble_eq_true rfl⟩) (hcs hZ ⟨Nat.le_of_ble_eq_true rfl, Nat.le_of_ble_eq_true rfl⟩) dX3_sealsTooSoon_46 (fun v G' hp => ?_)
            obtain ⟨rfl, rfl⟩ := hp
            show hX z 0 0 (T, I, L, R, A) [(3, .int (nI y)), (2, .int (nI x)), (0, .int (nI h)), (1, .int (nI dn))] 49 [.int (bI (nbt dn y))]
            refine x_if_ne (tgt := 56) C dX3_sealsTooSoon_49 (by decide) (fun c49 => ?_) (fun c49 => ?_)
            · refine x_iconst (v := nI 0) C dX3_sealsTooSoon_56 (by decide +kernel) ?_
              exact x_zret C E (by first | exact Or.inl rfl | exact Or.inr rfl | assumption) (Nat.le_of_ble_eq_true rfl) (Nat.le_of_ble_eq_true rfl) dX3_sealsTooSoon_57 (⟨by unfold stsB; rw [← hx, ← hy]; first | (rw [bI_F c25, bI_F c41]; rfl) | (rw [bI_F c25, bI_T c49]; simp [bI]) | (rw [bI_T c33, bI_F c41]; simp [bI]) | (rw [bI_T c33, bI_T c49]; simp [bI]), rfl⟩)
            · refine x_iconst (v := nI 1) C dX3_sealsTooSoon_52 (by decide +kernel) ?_
              refine x_goto (tgt := 57) C dX3_sealsTooSoon_53 (by decide) ?_
              exact x_zret C E (by first | exact Or.inl rfl | exact Or.inr rfl | assumption) (Nat.le_of_ble_eq_true rfl) (Nat.le_of_ble_eq_true rfl) dX3_sealsTooSoon_57 (⟨by unfold stsB; rw [← hx, ← hy]; first | (rw [bI_T c25, bI_F c33]; rfl) | (rw [bI_T c41, bI_F c49]; simp [bI]), rfl⟩)
    refine x_iload_n C dX3_sealsTooSoon_10 1 rfl rfl ?_
    refine x_if_neN (tgt := 18) C (by omega) dX3_sealsTooSoon_11 (by decide) (fun c11 => ?_) (fun c11 => ?_)
    · refine x_iconst (v := nI 4) C dX3_sealsTooSoon_18 (by decide +kernel) ?_
      refine x_sub (lv' := _) [0, 1, 2] rfl ?_
      exact J19 4 (by rw [if_neg c11])
    · refine x_iconst (v := nI 3) C dX3_sealsTooSoon_14 (by decide +kernel) ?_
      refine x_goto (tgt := 19) C dX3_sealsTooSoon_15 (by decide) ?_
      refine x_sub (lv' := _) [0, 1, 2] rfl ?_
      exact J19 3 (by rw [if_pos c11])
  refine x_iload_n C dX3_sealsTooSoon_0 0 rfl rfl ?_
  refine x_if_neN (tgt := 8) C (by omega) dX3_sealsTooSoon_1 (by decide) (fun c1 => ?_) (fun c1 => ?_)
  · refine x_iconst (v := nI 3) C dX3_sealsTooSoon_8 (by decide +kernel) ?_
    refine x_sub (lv' := _) [0, 1] rfl ?_
    exact J9 3 (by rw [if_neg c1])
  · refine x_iconst (v := nI 4) C dX3_sealsTooSoon_4 (by decide +kernel) ?_
    refine x_goto (tgt := 9) C dX3_sealsTooSoon_5 (by decide) ?_
    refine x_sub (lv' := _) [0, 1] rfl ?_
    exact J9 4 (by rw [if_pos c1])

theorem minI {a b : Nat} (ha : a ≤ 6) (hb : b ≤ 6) : (if nI b < nI a then nI b else nI a) = nI (min a b) := by
  by_cases h : b < a
  · rw [if_pos ((nI_ltI (by omega) (by omega)).mpr h), Nat.min_eq_right (by omega)]
  · rw [if_neg (fun q => h ((nI_ltI (by omega) (by omega)).mp q)), Nat.min_eq_left (by omega)]
set_option maxHeartbeats 4000000 in
set_option maxRecDepth 100000 in
theorem ok_X3_findFault {l : Launch} {a0 : Nat} {D : va_G} {sa : Nat → Nat} {T : Nat → Option hKd} {I : Nat → Nat → Int32} {L : Nat → Nat → Int64} {R : Nat → Nat → Option Nat} {A : Nat → Nat} (P : Nat) (hP : isPt T R A a0 P) (kn : Nat → Bool) (ms : Nat) (sz : Nat → Nat) (tk : Nat → Nat → Nat) (hs : Bool) (hI : ptI I P kn ms sz tk hs) (hsa : ∀ k, k < 5 → sa k = A (90 + k)) (hT90 : T 90 = some (.inl (.int, 6))) (h90 : ∀ t, t < 6 → I 90 t = ([0, 0, 3, 9, 6, 12] : List Int32).getD t 0) : hM l a0 D sa yX3_findFault cX3_findFault 8 (some .int) { frames := 2, cells := 0, slots := 0, locals := 44 } [.ref (A P)] (T, I, L, R, A) (fun r G' => (∃ f, r = some (.int (nI f)) ∧ isF kn ms sz tk f ∧ f ≤ 5) ∧ G' = (T, I, L, R, A)) := by
  refine hM.of (by decide +kernel) (Nat.le_of_ble_eq_true rfl) ?_
  intro z hl h0 hD hS hN C E
  subst hl; subst h0; subst hD; subst hS
  have C : hC z RX3 cX3_findFault := C
  have hZ := E.2.2.2.1
  show hX z 0 0 (T, I, L, R, A) [(0, .ref (A P))] 0 []
  have hms := hI.2.2.2.1
  refine x_aload_n C dX3_findFault_0 0 rfl rfl ?_
  refine x_callV C (ok_X3_hasEmptyMessage P hP kn ms sz tk hs hI) mv_X3_hasEmptyMessage ml_X3_42 hP.1.1 rfl rfl rfl (Nat.le_of_ble_eq_true rfl) (hrm (rm := { frames := 0, cells := 0, slots := 0, locals := 0 }) hZ ⟨Nat.le_of_ble_eq_true rfl, Nat.le_of_ble_eq_true rfl⟩) (hcs hZ ⟨Nat.le_of_ble_eq_true rfl, Nat.le_of_ble_eq_true rfl⟩) dX3_findFault_1 (fun v G' hp => ?_)
  obtain ⟨⟨qe, rfl, ge⟩, rfl⟩ := hp
  show hX z 0 0 (T, I, L, R, A) [(0, .ref (A P))] 4 [.int (bI qe)]
  refine x_if_eq (tgt := 9) C dX3_findFault_4 (by decide) (fun c4 => ?_) (fun c4 => ?_)
  · refine x_bipush (v := nI 6) C dX3_findFault_9 (by decide +kernel) ?_
    refine x_istore_n (lv' := [(1, .int (nI 6)), (0, .ref (A P))]) C dX3_findFault_11 rfl (Nat.lt_of_lt_of_eq (by decide) hN.symm) rfl ?_
    have J24 : ∀ (x : Nat), (x = if kn 0 then 4 else 0) → hX z 0 0 (T, I, L, R, A) [(1, .int (nI 6)), (0, .ref (A P))] 24 [.int (nI x)] := by
      intro x hx
      have J37 : ∀ (y : Nat), (y = if kn 1 then 8 else 0) → hX z 0 0 (T, I, L, R, A) [(1, .int (nI 6)), (0, .ref (A P))] 37 [.int (nI y), .int (nI x)] := by
        intro y hy
        refine x_ior C dX3_findFault_37 ?_
        refine x_eqi (y := nI (x ||| y)) (orI x (by rw [hx]; split <;> decide) y (by rw [hy]; split <;> decide)) ?_
        refine x_istore_n (lv' := [(2, .int (nI (x ||| y))), (1, .int (nI 6)), (0, .ref (A P))]) C dX3_findFault_38 rfl (Nat.lt_of_lt_of_eq (by decide) hN.symm) rfl ?_
        refine x_iconst (v := nI 0) C dX3_findFault_39 (by decide +kernel) ?_
        refine x_istore_n (lv' := [(3, .int (nI 0)), (2, .int (nI (x ||| y))), (1, .int (nI 6)), (0, .ref (A P))]) C dX3_findFault_40 rfl (Nat.lt_of_lt_of_eq (by decide) hN.symm) rfl ?_
        refine x_iconst (v := nI 0) C dX3_findFault_41 (by decide +kernel) ?_
        refine x_istore (lv' := [(4, .int (nI 0)), (3, .int (nI 0)), (2, .int (nI (x ||| y))), (1, .int (nI 6)), (0, .ref (A P))]) C dX3_findFault_42 (Nat.lt_of_lt_of_eq (by decide) hN.symm) rfl ?_
        have L44 : ∀ (fuel_ : Nat) (m : Nat) (lw : Nat) (kb : Nat) (dn : Nat), ms - m < fuel_ → (m ≤ ms) → (mgS kn sz tk m = (lw, kb, dn)) → hX z 0 0 (T, I, L, R, A) [(4, .int (nI m)), (3, .int (nI dn)), (2, .int (nI kb)), (1, .int (nI lw)), (0, .ref (A P))] 44 [] := by
          intro fuel_
          induction fuel_ with
          | zero => intro m lw kb dn hmz; exact absurd hmz (Nat.not_lt_zero _)
          | succ fuel_ ih44 =>
            intro m lw kb dn hmz hm hq
            have oq := mgS_ok (kn := kn) (sz := sz) hI.2.2.2.2.2.1 m
            rw [hq] at oq
            have oq1 : lw ≤ 6 := oq.1
            have oq2 : kb < 16 := oq.2.1
            have oq3 : dn < 64 := oq.2.2
            refine x_iload C dX3_findFault_44 0 rfl ?_
            refine x_aload_n C dX3_findFault_46 4 rfl rfl ?_
            refine x_getiN C fl_X3_20 hP.1.1 rfl dX3_findFault_47 ?_
            refine x_eqi (y := nI ms) hI.1.2.2.1 ?_
            refine x_icmp_geN (tgt := 158) C (by first | omega | (have h1_ := hI.2.2.2.2.1 m; omega) | (have h2_ := hI.2.2.2.2.2.1 m k; omega)) (by first | omega | (have h1_ := hI.2.2.2.2.1 m; omega) | (have h2_ := hI.2.2.2.2.2.1 m k; omega)) dX3_findFault_50 (by decide) (fun c50 => ?_) (fun c50 => ?_)
            · refine x_iload_n C dX3_findFault_158 3 rfl rfl ?_
              refine x_bipush (v := nI 6) C dX3_findFault_159 (by decide +kernel) ?_
              refine x_icmp_neN (tgt := 168) C (by first | omega | (have h1_ := hI.2.2.2.2.1 m; omega) | (have h2_ := hI.2.2.2.2.2.1 m k; omega)) (by first | omega | (have h1_ := hI.2.2.2.2.1 m; omega) | (have h2_ := hI.2.2.2.2.2.1 m k; omega)) dX3_findFault_161 (by decide) (fun c161 => ?_) (fun c161 => ?_)
              · refine x_iload_n C dX3_findFault_168 3 rfl rfl ?_
                exact x_iret C E (Nat.le_of_ble_eq_true rfl) (Nat.le_of_ble_eq_true rfl) dX3_findFault_169 (⟨⟨lw, rfl, Or.inr ⟨(fun h => by have := ge.mpr h; rw [bI_F c4] at this; cases this), by rw [show ms = m by omega, hq]; show lw = lowF lw; unfold lowF; rw [if_neg (by omega)]⟩, by omega⟩, rfl⟩)
              · refine x_iconst (v := nI 0) C dX3_findFault_164 (by decide +kernel) ?_
                refine x_goto (tgt := 169) C dX3_findFault_165 (by decide) ?_
                exact x_iret C E (Nat.le_of_ble_eq_true rfl) (Nat.le_of_ble_eq_true rfl) dX3_findFault_169 (⟨⟨0, rfl, Or.inr ⟨(fun h => by have := ge.mpr h; rw [bI_F c4] at this; cases this), by rw [show ms = m by omega, hq]; show 0 = lowF lw; unfold lowF; rw [if_pos (by omega)]⟩, by decide⟩, rfl⟩)
            · refine x_iload C dX3_findFault_53 0 rfl ?_
              refine x_iconst (v := nI 1) C dX3_findFault_55 (by decide +kernel) ?_
              refine x_iandN (q := 1) C (by first | omega | (have h1_ := hI.2.2.2.2.1 m; omega) | (have h2_ := hI.2.2.2.2.2.1 m k; omega)) (by omega) rfl dX3_findFault_56 ?_
              refine x_eqi (y := nI (m % 2)) rfl ?_
              refine x_istore (lv' := [(5, .int (nI (m % 2))), (4, .int (nI m)), (3, .int (nI dn)), (2, .int (nI kb)), (1, .int (nI lw)), (0, .ref (A P))]) C dX3_findFault_57 (Nat.lt_of_lt_of_eq (by decide) hN.symm) rfl ?_
              refine x_iconst (v := nI 0) C dX3_findFault_59 (by decide +kernel) ?_
              refine x_istore (lv' := [(6, .int (nI 0)), (5, .int (nI (m % 2))), (4, .int (nI m)), (3, .int (nI dn)), (2, .int (nI kb)), (1, .int (nI lw)), (0, .ref (A P))]) C dX3_findFault_60 (Nat.lt_of_lt_of_eq (by decide) hN.symm) rfl ?_
              have L62 : ∀ (fuel_ : Nat) (k : Nat) (lv : Nat) (kc : Nat) (dm : Nat), sz m - k < fuel_ → (k ≤ sz m) → (tkS (m % 2) (tk m) (mgS kn sz tk m) k = (lv, kc, dm)) → hX z 0 0 (T, I, L, R, A) [(6, .int (nI k)), (5, .int (nI (m % 2))), (4, .int (nI m)), (3, .int (nI dm)), (2, .int (nI kc)), (1, .int (nI lv)), (0, .ref (A P))] 62 [] := by
                intro fuel_
                induction fuel_ with
                | zero => intro k lv kc dm hmz; exact absurd hmz (Nat.not_lt_zero _)
                | succ fuel_ ih62 =>
                  intro k lv kc dm hmz hk hr
                  have oq := tkS_ok (q := mgS kn sz tk m) (h := m % 2) (tk := tk m) (by omega) (hI.2.2.2.2.2.1 m) (mgS_ok hI.2.2.2.2.2.1 m) k
                  rw [hr] at oq
                  have oq1 : lv ≤ 6 := oq.1
                  have oq2 : kc < 16 := oq.2.1
                  have oq3 : dm < 64 := oq.2.2
                  have hsz5 := hI.2.2.2.2.1 m
                  have htk5 := hI.2.2.2.2.2.1 m k
                  refine x_iload C dX3_findFault_62 0 rfl ?_
                  refine x_aload_n C dX3_findFault_64 6 rfl rfl ?_
                  refine x_getrN C fl_X3_16 hP.1.1 rfl hP.2.2.2.2.1 dX3_findFault_65 ?_
                  refine x_iload C dX3_findFault_68 2 rfl ?_
                  refine x_ialdN C hP.2.2.1.1 (by first | omega | (have h1_ := hI.2.2.2.2.1 m; omega) | (have h2_ := hI.2.2.2.2.2.1 m k; omega)) (by omega) dX3_findFault_70 ?_
                  refine x_eqi (y := nI (sz m)) (hI.2.1 m (by omega)) ?_
                  refine x_icmp_geN (tgt := 137) C (by first | omega | (have h1_ := hI.2.2.2.2.1 m; omega) | (have h2_ := hI.2.2.2.2.2.1 m k; omega)) (by first | omega | (have h1_ := hI.2.2.2.2.1 m; omega) | (have h2_ := hI.2.2.2.2.2.1 m k; omega)) dX3_findFault_71 (by decide) (fun c71 => ?_) (fun c71 => ?_)
                  · refine x_iload C dX3_findFault_137 1 rfl ?_
                    refine x_iload_n C dX3_findFault_139 3 rfl rfl ?_
                    refine x_callS C (ok_X3_sealsTooSoon (m % 2) dm (by omega) oq3) ms_X3_sealsTooSoon ml_X3_58 rfl rfl (Nat.le_of_ble_eq_true rfl) (hrm (rm := { frames := 0, cells := 0, slots := 0, locals := 0 }) hZ ⟨Nat.le_of_ble_eq_true rfl, Nat.le_of_ble_eq_true rfl⟩) (hcs hZ ⟨Nat.le_of_ble_eq_true rfl, Nat.le_of_ble_eq_true rfl⟩) dX3_findFault_140 (fun v G' hp => ?_)
                    obtain ⟨rfl, rfl⟩ := hp
                    show hX z 0 0 (T, I, L, R, A) [(6, .int (nI k)), (5, .int (nI (m % 2))), (4, .int (nI m)), (3, .int (nI dm)), (2, .int (nI kc)), (1, .int (nI lv)), (0, .ref (A P))] 143 [.int (bI (stsB (m % 2) dm))]
                    refine x_if_eq (tgt := 152) C dX3_findFault_143 (by decide) (fun c143 => ?_) (fun c143 => ?_)
                    · refine x_iinc (v := nI (m + 1)) (lv' := [(4, .int (nI (m + 1))), (6, .int (nI k)), (5, .int (nI (m % 2))), (3, .int (nI dm)), (2, .int (nI kc)), (1, .int (nI lv)), (0, .ref (A P))]) C dX3_findFault_152 2 rfl (nI_inc 1) (Nat.lt_of_lt_of_eq (by decide) hN.symm) rfl ?_
                      refine x_goto (tgt := 44) C dX3_findFault_155 (by decide) ?_
                      refine x_sub (lv' := _) [0, 3, 4, 5, 6] rfl ?_
                      exact ih44 (m + 1) lv kc dm (by omega) (by omega) (by show endS (m % 2) (tkS (m % 2) (tk m) (mgS kn sz tk m) (sz m)) = _; rw [show sz m = k by omega, hr]; show ((if stsB (m % 2) dm then min lv 5 else lv), kc, dm) = _; rw [bI_F c143]; rfl)
                    · refine x_iload_n C dX3_findFault_146 5 rfl rfl ?_
                      refine x_iconst (v := nI 5) C dX3_findFault_147 (by decide +kernel) ?_
                      refine x_min C ml_X3_50 (hrm (rm := { frames := 0, cells := 0, slots := 0, locals := 0 }) hZ ⟨Nat.le_of_ble_eq_true rfl, Nat.le_of_ble_eq_true rfl⟩) (hcs hZ ⟨Nat.le_of_ble_eq_true rfl, Nat.le_of_ble_eq_true rfl⟩) dX3_findFault_148 ?_
                      refine x_eqi (y := nI (min lv 5)) (minI oq1 (by first | decide | exact fAt_6 _ _ _ _)) ?_
                      refine x_istore_n (lv' := [(1, .int (nI (min lv 5))), (6, .int (nI k)), (5, .int (nI (m % 2))), (4, .int (nI m)), (3, .int (nI dm)), (2, .int (nI kc)), (0, .ref (A P))]) C dX3_findFault_151 rfl (Nat.lt_of_lt_of_eq (by decide) hN.symm) rfl ?_
                      refine x_iinc (v := nI (m + 1)) (lv' := [(4, .int (nI (m + 1))), (1, .int (nI (min lv 5))), (6, .int (nI k)), (5, .int (nI (m % 2))), (3, .int (nI dm)), (2, .int (nI kc)), (0, .ref (A P))]) C dX3_findFault_152 3 rfl (nI_inc 1) (Nat.lt_of_lt_of_eq (by decide) hN.symm) rfl ?_
                      refine x_goto (tgt := 44) C dX3_findFault_155 (by decide) ?_
                      refine x_sub (lv' := _) [0, 4, 5, 1, 6] rfl ?_
                      exact ih44 (m + 1) (min lv 5) kc dm (by omega) (by first | omega | (have h1_ := hI.2.2.2.2.1 m; omega) | (have h2_ := hI.2.2.2.2.2.1 m k; omega)) (by show endS (m % 2) (tkS (m % 2) (tk m) (mgS kn sz tk m) (sz m)) = _; rw [show sz m = k by omega, hr]; show ((if stsB (m % 2) dm then min lv 5 else lv), kc, dm) = _; rw [bI_T c143]; rfl)
                  · refine x_aload_n C dX3_findFault_74 6 rfl rfl ?_
                    refine x_getrN C fl_X3_13 hP.1.1 rfl hP.2.2.2.1 dX3_findFault_75 ?_
                    refine x_iload C dX3_findFault_78 2 rfl ?_
                    refine x_aaldN C hP.2.1.1 rfl (by first | omega | (have h1_ := hI.2.2.2.2.1 m; omega) | (have h2_ := hI.2.2.2.2.2.1 m k; omega)) (by omega) (hP.2.2.2.2.2 m (by omega)).1 dX3_findFault_80 ?_
                    refine x_iload C dX3_findFault_81 0 rfl ?_
                    refine x_ialdN C (hP.2.2.2.2.2 m (by omega)).2.1 (by first | omega | (have h1_ := hI.2.2.2.2.1 m; omega) | (have h2_ := hI.2.2.2.2.2.1 m k; omega)) (by omega) dX3_findFault_83 ?_
                    refine x_eqi (y := nI (tk m k)) (hI.2.2.1 m (by omega) k (by omega)) ?_
                    refine x_istore (lv' := [(7, .int (nI (tk m k))), (6, .int (nI k)), (5, .int (nI (m % 2))), (4, .int (nI m)), (3, .int (nI dm)), (2, .int (nI kc)), (1, .int (nI lv)), (0, .ref (A P))]) C dX3_findFault_84 (Nat.lt_of_lt_of_eq (by decide) hN.symm) rfl ?_
                    refine x_iload_n C dX3_findFault_86 6 rfl rfl ?_
                    refine x_iload C dX3_findFault_87 0 rfl ?_
                    refine x_iload C dX3_findFault_89 2 rfl ?_
                    refine x_iload_n C dX3_findFault_91 5 rfl rfl ?_
                    refine x_iload_n C dX3_findFault_92 4 rfl rfl ?_
                    refine x_callS C (ok_X3_faultAt hsa hT90 h90 (tk m k) (m % 2) kc dm (hI.2.2.2.2.2.1 _ _) (by omega) oq2 oq3) ms_X3_faultAt ml_X3_46 rfl rfl (Nat.le_of_ble_eq_true rfl) (hrm (rm := { frames := 0, cells := 0, slots := 0, locals := 0 }) hZ ⟨Nat.le_of_ble_eq_true rfl, Nat.le_of_ble_eq_true rfl⟩) (hcs hZ ⟨Nat.le_of_ble_eq_true rfl, Nat.le_of_ble_eq_true rfl⟩) dX3_findFault_93 (fun v G' hp => ?_)
                    obtain ⟨rfl, rfl⟩ := hp
                    show hX z 0 0 (T, I, L, R, A) [(7, .int (nI (tk m k))), (6, .int (nI k)), (5, .int (nI (m % 2))), (4, .int (nI m)), (3, .int (nI dm)), (2, .int (nI kc)), (1, .int (nI lv)), (0, .ref (A P))] 96 [.int (nI (fAt (tk m k) (m % 2) kc dm)), .int (nI lv)]
                    refine x_min C ml_X3_50 (hrm (rm := { frames := 0, cells := 0, slots := 0, locals := 0 }) hZ ⟨Nat.le_of_ble_eq_true rfl, Nat.le_of_ble_eq_true rfl⟩) (hcs hZ ⟨Nat.le_of_ble_eq_true rfl, Nat.le_of_ble_eq_true rfl⟩) dX3_findFault_96 ?_
                    refine x_eqi (y := nI (min lv (fAt (tk m k) (m % 2) kc dm))) (minI oq1 (by first | decide | exact fAt_6 _ _ _ _)) ?_
                    refine x_istore_n (lv' := [(1, .int (nI (min lv (fAt (tk m k) (m % 2) kc dm)))), (7, .int (nI (tk m k))), (6, .int (nI k)), (5, .int (nI (m % 2))), (4, .int (nI m)), (3, .int (nI dm)), (2, .int (nI kc)), (0, .ref (A P))]) C dX3_findFault_99 rfl (Nat.lt_of_lt_of_eq (by decide) hN.symm) rfl ?_
                    refine x_iload C dX3_findFault_100 1 rfl ?_
                    refine x_if_eqN (tgt := 111) C (by first | omega | (have h1_ := hI.2.2.2.2.1 m; omega) | (have h2_ := hI.2.2.2.2.2.1 m k; omega)) dX3_findFault_102 (by decide) (fun c102 => ?_) (fun c102 => ?_)
                    · refine x_iload_n C dX3_findFault_111 6 rfl rfl ?_
                      refine x_iload C dX3_findFault_112 1 rfl ?_
                      refine x_iload C dX3_findFault_114 3 rfl ?_
                      refine x_callS C (ok_X3_keyBit (tk m k) (m % 2) (by omega) (by omega)) ms_X3_keyBit ml_X3_55 rfl rfl (Nat.le_of_ble_eq_true rfl) (hrm (rm := { frames := 0, cells := 0, slots := 0, locals := 0 }) hZ ⟨Nat.le_of_ble_eq_true rfl, Nat.le_of_ble_eq_true rfl⟩) (hcs hZ ⟨Nat.le_of_ble_eq_true rfl, Nat.le_of_ble_eq_true rfl⟩) dX3_findFault_116 (fun v G' hp => ?_)
                      obtain ⟨rfl, rfl⟩ := hp
                      show hX z 0 0 (T, I, L, R, A) [(1, .int (nI (min lv (fAt (tk m k) (m % 2) kc dm)))), (7, .int (nI (tk m k))), (6, .int (nI k)), (5, .int (nI (m % 2))), (4, .int (nI m)), (3, .int (nI dm)), (2, .int (nI kc)), (0, .ref (A P))] 119 [.int (nI (2 ^ (2 * (tk m k) + (m % 2)))), .int (nI kc)]
                      refine x_ior C dX3_findFault_119 ?_
                      refine x_eqi (y := nI (kc ||| 2 ^ (2 * tk m k + m % 2))) (orI _ (by omega) _ (Nat.lt_of_lt_of_le (p2_16 _ (by omega) _ (by omega)) (by decide))) ?_
                      refine x_istore_n (lv' := [(2, .int (nI (kc ||| 2 ^ (2 * tk m k + m % 2)))), (1, .int (nI (min lv (fAt (tk m k) (m % 2) kc dm)))), (7, .int (nI (tk m k))), (6, .int (nI k)), (5, .int (nI (m % 2))), (4, .int (nI m)), (3, .int (nI dm)), (0, .ref (A P))]) C dX3_findFault_120 rfl (Nat.lt_of_lt_of_eq (by decide) hN.symm) rfl ?_
                      refine x_goto (tgt := 131) C dX3_findFault_121 (by decide) ?_
                      refine x_iinc (v := nI (k + 1)) (lv' := [(6, .int (nI (k + 1))), (2, .int (nI (kc ||| 2 ^ (2 * tk m k + m % 2)))), (1, .int (nI (min lv (fAt (tk m k) (m % 2) kc dm)))), (7, .int (nI (tk m k))), (5, .int (nI (m % 2))), (4, .int (nI m)), (3, .int (nI dm)), (0, .ref (A P))]) C dX3_findFault_131 3 rfl (nI_inc 1) (Nat.lt_of_lt_of_eq (by decide) hN.symm) rfl ?_
                      refine x_goto (tgt := 62) C dX3_findFault_134 (by decide) ?_
                      refine x_sub (lv' := _) [0, 4, 5, 6, 1, 2, 7] rfl ?_
                      exact ih62 (k + 1) (min lv (fAt (tk m k) (m % 2) kc dm)) (kc ||| 2 ^ (2 * tk m k + m % 2)) dm (by omega) (by omega) (by show stp (m % 2) (tk m k) (tkS (m % 2) (tk m) (mgS kn sz tk m) k) = _; rw [hr]; show (min lv (fAt (tk m k) (m % 2) kc dm), (if tk m k ≤ 1 then kc ||| 2 ^ (2 * tk m k + m % 2) else kc), (if tk m k ≤ 1 then dm else dm ||| 2 ^ tk m k)) = _; rw [if_pos (by omega), if_pos (by omega)])
                    · refine x_iload C dX3_findFault_105 1 rfl ?_
                      refine x_iconst (v := nI 1) C dX3_findFault_107 (by decide +kernel) ?_
                      refine x_icmp_neN (tgt := 124) C (by first | omega | (have h1_ := hI.2.2.2.2.1 m; omega) | (have h2_ := hI.2.2.2.2.2.1 m k; omega)) (by first | omega | (have h1_ := hI.2.2.2.2.1 m; omega) | (have h2_ := hI.2.2.2.2.2.1 m k; omega)) dX3_findFault_108 (by decide) (fun c108 => ?_) (fun c108 => ?_)
                      · refine x_iload_n C dX3_findFault_124 5 rfl rfl ?_
                        refine x_iconst (v := nI 1) C dX3_findFault_125 (by decide +kernel) ?_
                        refine x_iload C dX3_findFault_126 1 rfl ?_
                        refine x_ishl C dX3_findFault_128 ?_
                        refine x_eqi (y := nI (2 ^ tk m k)) (shI _ (hI.2.2.2.2.2.1 m k)) ?_
                        refine x_ior C dX3_findFault_129 ?_
                        refine x_eqi (y := nI (dm ||| 2 ^ tk m k)) (orI _ oq3 _ (p2_64 _ (hI.2.2.2.2.2.1 m k))) ?_
                        refine x_istore_n (lv' := [(3, .int (nI (dm ||| 2 ^ tk m k))), (1, .int (nI (min lv (fAt (tk m k) (m % 2) kc dm)))), (7, .int (nI (tk m k))), (6, .int (nI k)), (5, .int (nI (m % 2))), (4, .int (nI m)), (2, .int (nI kc)), (0, .ref (A P))]) C dX3_findFault_130 rfl (Nat.lt_of_lt_of_eq (by decide) hN.symm) rfl ?_
                        refine x_iinc (v := nI (k + 1)) (lv' := [(6, .int (nI (k + 1))), (3, .int (nI (dm ||| 2 ^ tk m k))), (1, .int (nI (min lv (fAt (tk m k) (m % 2) kc dm)))), (7, .int (nI (tk m k))), (5, .int (nI (m % 2))), (4, .int (nI m)), (2, .int (nI kc)), (0, .ref (A P))]) C dX3_findFault_131 3 rfl (nI_inc 1) (Nat.lt_of_lt_of_eq (by decide) hN.symm) rfl ?_
                        refine x_goto (tgt := 62) C dX3_findFault_134 (by decide) ?_
                        refine x_sub (lv' := _) [0, 4, 5, 1, 6, 2, 7] rfl ?_
                        exact ih62 (k + 1) (min lv (fAt (tk m k) (m % 2) kc dm)) kc (dm ||| 2 ^ tk m k) (by omega) (by omega) (by show stp (m % 2) (tk m k) (tkS (m % 2) (tk m) (mgS kn sz tk m) k) = _; rw [hr]; show (min lv (fAt (tk m k) (m % 2) kc dm), (if tk m k ≤ 1 then kc ||| 2 ^ (2 * tk m k + m % 2) else kc), (if tk m k ≤ 1 then dm else dm ||| 2 ^ tk m k)) = _; rw [if_neg (by omega), if_neg (by omega)])
                      · refine x_iload_n C dX3_findFault_111 6 rfl rfl ?_
                        refine x_iload C dX3_findFault_112 1 rfl ?_
                        refine x_iload C dX3_findFault_114 3 rfl ?_
                        refine x_callS C (ok_X3_keyBit (tk m k) (m % 2) (by omega) (by omega)) ms_X3_keyBit ml_X3_55 rfl rfl (Nat.le_of_ble_eq_true rfl) (hrm (rm := { frames := 0, cells := 0, slots := 0, locals := 0 }) hZ ⟨Nat.le_of_ble_eq_true rfl, Nat.le_of_ble_eq_true rfl⟩) (hcs hZ ⟨Nat.le_of_ble_eq_true rfl, Nat.le_of_ble_eq_true rfl⟩) dX3_findFault_116 (fun v G' hp => ?_)
                        obtain ⟨rfl, rfl⟩ := hp
                        show hX z 0 0 (T, I, L, R, A) [(1, .int (nI (min lv (fAt (tk m k) (m % 2) kc dm)))), (7, .int (nI (tk m k))), (6, .int (nI k)), (5, .int (nI (m % 2))), (4, .int (nI m)), (3, .int (nI dm)), (2, .int (nI kc)), (0, .ref (A P))] 119 [.int (nI (2 ^ (2 * (tk m k) + (m % 2)))), .int (nI kc)]
                        refine x_ior C dX3_findFault_119 ?_
                        refine x_eqi (y := nI (kc ||| 2 ^ (2 * tk m k + m % 2))) (orI _ (by omega) _ (Nat.lt_of_lt_of_le (p2_16 _ (by omega) _ (by omega)) (by decide))) ?_
                        refine x_istore_n (lv' := [(2, .int (nI (kc ||| 2 ^ (2 * tk m k + m % 2)))), (1, .int (nI (min lv (fAt (tk m k) (m % 2) kc dm)))), (7, .int (nI (tk m k))), (6, .int (nI k)), (5, .int (nI (m % 2))), (4, .int (nI m)), (3, .int (nI dm)), (0, .ref (A P))]) C dX3_findFault_120 rfl (Nat.lt_of_lt_of_eq (by decide) hN.symm) rfl ?_
                        refine x_goto (tgt := 131) C dX3_findFault_121 (by decide) ?_
                        refine x_iinc (v := nI (k + 1)) (lv' := [(6, .int (nI (k + 1))), (2, .int (nI (kc ||| 2 ^ (2 * tk m k + m % 2)))), (1, .int (nI (min lv (fAt (tk m k) (m % 2) kc dm)))), (7, .int (nI (tk m k))), (5, .int (nI (m % 2))), (4, .int (nI m)), (3, .int (nI dm)), (0, .ref (A P))]) C dX3_findFault_131 3 rfl (nI_inc 1) (Nat.lt_of_lt_of_eq (by decide) hN.symm) rfl ?_
                        refine x_goto (tgt := 62) C dX3_findFault_134 (by decide) ?_
                        refine x_sub (lv' := _) [0, 4, 5, 6, 1, 2, 7] rfl ?_
                        exact ih62 (k + 1) (min lv (fAt (tk m k) (m % 2) kc dm)) (kc ||| 2 ^ (2 * tk m k + m % 2)) dm (by omega) (by omega) (by show stp (m % 2) (tk m k) (tkS (m % 2) (tk m) (mgS kn sz tk m) k) = _; rw [hr]; show (min lv (fAt (tk m k) (m % 2) kc dm), (if tk m k ≤ 1 then kc ||| 2 ^ (2 * tk m k + m % 2) else kc), (if tk m k ≤ 1 then dm else dm ||| 2 ^ tk m k)) = _; rw [if_pos (by omega), if_pos (by omega)])
              refine x_sub (lv' := _) [0, 1, 2, 3, 4, 5, 6] rfl ?_
              exact L62 _ 0 lw kb dn (Nat.lt_succ_self _) (Nat.zero_le _) (by show mgS kn sz tk m = _; exact hq)
        refine x_sub (lv' := _) [0, 1, 2, 3, 4] rfl ?_
        exact L44 _ 0 6 (x ||| y) 0 (Nat.lt_succ_self _) (by omega) (by show (6, _, 0) = _; rw [← hx, ← hy])
      refine x_aload_n C dX3_findFault_24 1 rfl rfl ?_
      refine x_getiN C fl_X3_31 hP.1.1 rfl dX3_findFault_25 ?_
      refine x_eqi (y := bI (kn 1)) hI.1.2.1 ?_
      refine x_if_eq (tgt := 36) C dX3_findFault_28 (by decide) (fun c28 => ?_) (fun c28 => ?_)
      · refine x_iconst (v := nI 0) C dX3_findFault_36 (by decide +kernel) ?_
        refine x_sub (lv' := _) [0, 1] rfl ?_
        exact J37 0 (by rw [bI_F c28]; rfl)
      · refine x_bipush (v := nI 8) C dX3_findFault_31 (by decide +kernel) ?_
        refine x_goto (tgt := 37) C dX3_findFault_33 (by decide) ?_
        refine x_sub (lv' := _) [0, 1] rfl ?_
        exact J37 8 (by rw [bI_T c28]; rfl)
    refine x_aload_n C dX3_findFault_12 1 rfl rfl ?_
    refine x_getiN C fl_X3_28 hP.1.1 rfl dX3_findFault_13 ?_
    refine x_eqi (y := bI (kn 0)) hI.1.1 ?_
    refine x_if_eq (tgt := 23) C dX3_findFault_16 (by decide) (fun c16 => ?_) (fun c16 => ?_)
    · refine x_iconst (v := nI 0) C dX3_findFault_23 (by decide +kernel) ?_
      refine x_sub (lv' := _) [0, 1] rfl ?_
      exact J24 0 (by rw [bI_F c16]; rfl)
    · refine x_iconst (v := nI 4) C dX3_findFault_19 (by decide +kernel) ?_
      refine x_goto (tgt := 24) C dX3_findFault_20 (by decide) ?_
      refine x_sub (lv' := _) [0, 1] rfl ?_
      exact J24 4 (by rw [bI_T c16]; rfl)
  · refine x_iconst (v := nI 1) C dX3_findFault_7 (by decide +kernel) ?_
    exact x_iret C E (Nat.le_of_ble_eq_true rfl) (Nat.le_of_ble_eq_true rfl) dX3_findFault_8 (⟨⟨1, rfl, Or.inl ⟨ge.mp (bI_T c4), rfl⟩, by decide⟩, rfl⟩)

