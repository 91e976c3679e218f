set_option maxHeartbeats 4000000 in
set_option maxRecDepth 100000 in
theorem ok_X5_addByte {l : Launch} {a0 : Nat} {D : va_G} {sa : Nat → Nat} {T : Nat → Option hKd} {I : Nat → Nat → Int32} {L : Nat → Nat → Int64} {R : Nat → Nat → Option Nat} {A : Nat → Nat} (h s w : Nat) (hTh : T h = some (.inr 5)) (hRs : R h 0 = some s) (hRw : R h 1 = some w) (hTs : T s = some (.inl (.int, 8))) (hTw : T w = some (.inl (.int, 64))) (hh0 : a0 ≤ A h) (hs0 : a0 ≤ A s) (hw0 : a0 ≤ A w) (hhs : h ≠ s) (hhw : h ≠ w) (hsw : s ≠ w) (hsa : ∀ k, k < 5 → sa k = A (90 + k)) (hT92 : T 92 = some (.inl (.int, 64))) (h92 : ∀ t, t < 64 → I 92 t = kSha t) (n92 : 92 ≠ s ∧ 92 ≠ w ∧ 92 ≠ h) (m : Nat → Int32) (k : Nat) (b : Int32) (hA : shaAt I h s w m k) (hb : b = m k) : hM l a0 D sa yX5_addByte cX5_addByte 2 none { frames := 1, cells := 0, slots := 0, locals := 33 } [.ref (A h), .int b] (T, I, L, R, A) (fun r G' => r = none ∧ ∃ I', G' = (T, I', L, R, A) ∧ shaAt I' h s w m (k + 1) ∧ ∀ q, q ≠ h → q ≠ s → q ≠ w → I' q = I q) := by
  refine hM.of (by decide +kernel) (Nat.le_of_ble_eq_true rfl) ?_
  intro z hl h0 hD hS hN C E
  subst hl; subst h0; subst hD; subst hS
  have C : hC z RX5 cX5_addByte := C
  have hZ := E.2.2.2.1
  show hX z 0 0 (T, I, L, R, A) [(0, .ref (A h)), (1, .int b)] 0 []
  refine x_aload_n C dX5_addByte_0 0 rfl rfl ?_
  refine x_getrN C fl_X5_15 hTh rfl hRw dX5_addByte_1 ?_
  refine x_aload_n C dX5_addByte_4 0 rfl rfl ?_
  refine x_getiN C fl_X5_18 hTh rfl dX5_addByte_5 ?_
  refine x_eqi (y := nI (k % 64)) hA.2.1 ?_
  refine x_iconst (v := nI 2) C dX5_addByte_8 (by decide +kernel) ?_
  refine x_ishrN C (by omega) (by omega) dX5_addByte_9 ?_
  refine x_aload_n C dX5_addByte_10 0 rfl rfl ?_
  refine x_getrN C fl_X5_15 hTh rfl hRw dX5_addByte_11 ?_
  refine x_aload_n C dX5_addByte_14 0 rfl rfl ?_
  refine x_getiN C fl_X5_18 hTh rfl dX5_addByte_15 ?_
  refine x_eqi (y := nI (k % 64)) hA.2.1 ?_
  refine x_iconst (v := nI 2) C dX5_addByte_18 (by decide +kernel) ?_
  refine x_ishrN C (by omega) (by omega) dX5_addByte_19 ?_
  refine x_ialdN C hTw (by omega) (by omega) dX5_addByte_20 ?_
  refine x_bipush (v := nI 8) C dX5_addByte_21 (by decide +kernel) ?_
  refine x_ishl C dX5_addByte_23 ?_
  refine x_iload_n C dX5_addByte_24 1 rfl rfl ?_
  refine x_ior C dX5_addByte_25 ?_
  refine x_iastN C hTw hw0 (by omega) (by omega) dX5_addByte_26 (fun I1 eI1 => ?_)
  refine x_aload_n C dX5_addByte_27 0 rfl rfl ?_
  refine x_dup C dX5_addByte_28 rfl ?_
  refine x_getiN C fl_X5_22 hTh rfl dX5_addByte_29 ?_
  refine x_eqi (y := nI k) (by rw [eI1]; simp [va_up, hhw, hA.2.2.1]) ?_
  refine x_iconst (v := nI 1) C dX5_addByte_32 (by decide +kernel) ?_
  refine x_iaddN C dX5_addByte_33 ?_
  refine x_putiN C fl_X5_22 hTh hh0 rfl dX5_addByte_34 (fun I2 eI2 => ?_)
  refine x_aload_n C dX5_addByte_37 0 rfl rfl ?_
  refine x_aload_n C dX5_addByte_38 0 rfl rfl ?_
  refine x_getiN C fl_X5_18 hTh rfl dX5_addByte_39 ?_
  refine x_eqi (y := nI (k % 64)) (by rw [eI2, eI1]; simp [va_up, upd, hhw, hA.2.1]) ?_
  refine x_iconst (v := nI 1) C dX5_addByte_42 (by decide +kernel) ?_
  refine x_iaddN C dX5_addByte_43 ?_
  refine x_bipush (v := nI 63) C dX5_addByte_44 (by decide +kernel) ?_
  refine x_iandN (q := 6) C (by omega) (by omega) rfl dX5_addByte_46 ?_
  refine x_putiN C fl_X5_18 hTh hh0 rfl dX5_addByte_47 (fun I3 eI3 => ?_)
  refine x_aload_n C dX5_addByte_50 0 rfl rfl ?_
  refine x_getiN C fl_X5_18 hTh rfl dX5_addByte_51 ?_
  refine x_eqi (y := nI ((k % 64 + 1) % 2 ^ 6)) (by rw [eI3]; simp only [up_eq, pk_us]) ?_
  refine x_if_neN (tgt := 61) C (by omega) dX5_addByte_54 (by decide) (fun c54 => ?_) (fun c54 => ?_)
  · exact x_vret C E (Nat.le_of_ble_eq_true rfl) (Nat.le_of_ble_eq_true rfl) dX5_addByte_61 (⟨rfl, _, rfl, hA.byte (by omega) (by rw [eI3, eI2, eI1]; simp [va_up, Ne.symm hhs, hsw]) (by rw [eI3]; simp only [up_eq, pk_us]; exact congrArg nI (by omega)) (by rw [eI3, eI2]; simp [va_up, upd]) (by rw [eI3, eI2, eI1, hb]; simp [va_up, Ne.symm hhw]), fun q q1 q2 q3 => by rw [eI3, eI2, eI1]; simp [va_up, q1, q3]⟩)
  · refine x_aload_n C dX5_addByte_57 0 rfl rfl ?_
    refine x_callV C (ok_X5_addBlock h s w hTh hRs hRw hTs hTw hh0 hs0 hw0 hhs hhw hsw hsa hT92 (fun t ht => by rw [eI3, eI2, eI1]; simp [va_up, n92]; exact h92 t ht) n92) mv_X5_addBlock ml_X5_38 hTh rfl rfl rfl (Nat.le_of_ble_eq_true rfl) (hrm (rm := { frames := 0, cells := 0, slots := 0, locals := 0 }) hZ ⟨Nat.le_of_ble_eq_true rfl, Nat.le_of_ble_eq_true rfl⟩) (hcs hZ ⟨Nat.le_of_ble_eq_true rfl, Nat.le_of_ble_eq_true rfl⟩) dX5_addByte_58 (fun v G' hp => ?_)
    obtain ⟨rfl, rfl⟩ := hp
    show hX z 0 0 (T, (va_up (va_up I3 w (sW (I3 w) 48)) s (shaB (I3 s) (I3 w))), L, R, A) [(0, .ref (A h)), (1, .int b)] 61 []
    exact x_vret C E (Nat.le_of_ble_eq_true rfl) (Nat.le_of_ble_eq_true rfl) dX5_addByte_61 (⟨rfl, _, rfl, hA.full (by omega) (by simp [va_up]; rw [eI3, eI2, eI1, hb]; simp [va_up, Ne.symm hhs, Ne.symm hhw, hsw]) (by rw [up_ne _ _ hhs, up_ne _ _ hhw, eI3]; simp only [up_eq, pk_us]; exact congrArg nI (by omega)) (by simp [va_up, hhs, hhw]; rw [eI3, eI2]; simp [va_up, upd]), fun q q1 q2 q3 => by simp [va_up, q2, q3]; rw [eI3, eI2, eI1]; simp [va_up, q1, q3]⟩)

set_option maxHeartbeats 4000000 in
set_option maxRecDepth 100000 in
theorem ok_X5_begin {l : Launch} {a0 : Nat} {D : va_G} {sa : Nat → Nat} {T : Nat → Option hKd} {I : Nat → Nat → Int32} {L : Nat → Nat → Int64} {R : Nat → Nat → Option Nat} {A : Nat → Nat} (h s w : Nat) (hTh : T h = some (.inr 5)) (hRs : R h 0 = some s) (hRw : R h 1 = some w) (hTs : T s = some (.inl (.int, 8))) (hTw : T w = some (.inl (.int, 64))) (hh0 : a0 ≤ A h) (hs0 : a0 ≤ A s) (hw0 : a0 ≤ A w) (hhs : h ≠ s) (hhw : h ≠ w) (hsw : s ≠ w) (m : Nat → Int32) (hsa : ∀ k, k < 5 → sa k = A (90 + k)) (hT91 : T 91 = some (.inl (.int, 8))) (h91 : ∀ t, t < 8 → I 91 t = fSha t) : hM l a0 D sa yX5_begin cX5_begin 1 none { frames := 1, cells := 0, slots := 0, locals := 40 } [.ref (A h)] (T, I, L, R, A) (fun r G' => r = none ∧ ∃ I', G' = (T, I', L, R, A) ∧ shaAt I' h s w m 0 ∧ ∀ q, q ≠ h → q ≠ s → q ≠ w → I' q = I q) := by
  refine hM.of (by decide +kernel) (Nat.le_of_ble_eq_true rfl) ?_
  intro z hl h0 hD hS hN C E
  subst hl; subst h0; subst hD; subst hS
  have C : hC z RX5 cX5_begin := C
  have hZ := E.2.2.2.1
  show hX z 0 0 (T, I, L, R, A) [(0, .ref (A h))] 0 []
  refine x_getsN (k := 1) C (hsa 1 (by decide)) rfl sl_X5_25 dX5_begin_0 ?_
  refine x_iconst (v := nI 0) C dX5_begin_3 (by decide +kernel) ?_
  refine x_aload_n C dX5_begin_4 0 rfl rfl ?_
  refine x_getrN C fl_X5_9 hTh rfl hRs dX5_begin_5 ?_
  refine x_iconst (v := nI 0) C dX5_begin_8 (by decide +kernel) ?_
  refine x_bipush (v := nI 8) C dX5_begin_9 (by decide +kernel) ?_
  refine x_copyi C hT91 hTs hs0 (by omega) (by omega) (by omega) (by omega) ml_X5_28 (hrm (rm := { frames := 0, cells := 0, slots := 0, locals := 0 }) hZ ⟨Nat.le_of_ble_eq_true rfl, by decide +kernel⟩) dX5_begin_11 (fun I1 eI1 => ?_)
  refine x_aload_n C dX5_begin_14 0 rfl rfl ?_
  refine x_iconst (v := nI 0) C dX5_begin_15 (by decide +kernel) ?_
  refine x_putiN C fl_X5_18 hTh hh0 rfl dX5_begin_16 (fun I2 eI2 => ?_)
  refine x_aload_n C dX5_begin_19 0 rfl rfl ?_
  refine x_iconst (v := nI 0) C dX5_begin_20 (by decide +kernel) ?_
  refine x_putiN C fl_X5_22 hTh hh0 rfl dX5_begin_21 (fun I3 eI3 => ?_)
  exact x_vret C E (Nat.le_of_ble_eq_true rfl) (Nat.le_of_ble_eq_true rfl) dX5_begin_24 (⟨rfl, _, rfl, ⟨fun j hj => by rw [eI3, eI2, eI1]; simp [va_up, Ne.symm hhs]; rw [if_pos hj, h91 j hj]; rfl, by rw [eI3, eI2]; simp [va_up, upd], by rw [eI3]; simp [va_up, upd], fun t ht => absurd ht (by simp), _, rfl⟩, fun q q1 q2 q3 => by rw [eI3, eI2, eI1]; simp [va_up, q1, q2]⟩)

set_option maxHeartbeats 4000000 in
set_option maxRecDepth 100000 in
theorem ok_X5_add {l : Launch} {a0 : Nat} {D : va_G} {sa : Nat → Nat} {T : Nat → Option hKd} {I : Nat → Nat → Int32} {L : Nat → Nat → Int64} {R : Nat → Nat → Option Nat} {A : Nat → Nat} (h s w : Nat) (hTh : T h = some (.inr 5)) (hRs : R h 0 = some s) (hRw : R h 1 = some w) (hTs : T s = some (.inl (.int, 8))) (hTw : T w = some (.inl (.int, 64))) (hh0 : a0 ≤ A h) (hs0 : a0 ≤ A s) (hw0 : a0 ≤ A w) (hhs : h ≠ s) (hhw : h ≠ w) (hsw : s ≠ w) (hsa : ∀ k, k < 5 → sa k = A (90 + k)) (hT92 : T 92 = some (.inl (.int, 64))) (h92 : ∀ t, t < 64 → I 92 t = kSha t) (n92 : 92 ≠ s ∧ 92 ≠ w ∧ 92 ≠ h) (m : Nat → Int32) (k a n b c : Nat) (hA : shaAt I h s w m k) (hTa : T a = some (.inl (.int, n))) (hn : n < 2 ^ 31) (hbc : b ≤ c) (hc : c ≤ n) (ha : a ≠ h ∧ a ≠ s ∧ a ≠ w) (hm : ∀ i, i < c - b → m (k + i) = I a (b + i)) : hM l a0 D sa yX5_add cX5_add 5 none { frames := 2, cells := 0, slots := 0, locals := 54 } [.ref (A h), .ref (A a), .int (nI b), .int (nI c)] (T, I, L, R, A) (fun r G' => r = none ∧ ∃ I', G' = (T, I', L, R, A) ∧ shaAt I' h s w m (k + (c - b)) ∧ ∀ q, q ≠ h → q ≠ s → q ≠ w → I' q = I q) := by
  refine hM.of (by decide +kernel) (Nat.le_of_ble_eq_true rfl) ?_
  intro z hl h0 hD hS hN C E
  subst hl; subst h0; subst hD; subst hS
  have C : hC z RX5 cX5_add := C
  have hZ := E.2.2.2.1
  show hX z 0 0 (T, I, L, R, A) [(0, .ref (A h)), (1, .ref (A a)), (2, .int (nI b)), (3, .int (nI c))] 0 []
  refine x_iload_n C dX5_add_0 2 rfl rfl ?_
  refine x_istore (lv' := [(4, .int (nI b)), (0, .ref (A h)), (1, .ref (A a)), (2, .int (nI b)), (3, .int (nI c))]) C dX5_add_1 (Nat.lt_of_lt_of_eq (by decide) hN.symm) rfl ?_
  have L3 : ∀ (f : Nat) (i : Nat) (J : Nat → Nat → Int32), c - i < f → (b ≤ i) → (i ≤ c) → (shaAt J h s w m (k + (i - b))) → (∀ q, q ≠ h → q ≠ s → q ≠ w → J q = I q) → hX z 0 0 (T, J, L, R, A) [(4, .int (nI i)), (0, .ref (A h)), (1, .ref (A a)), (2, .int (nI b)), (3, .int (nI c))] 3 [] := by
    intro f
    induction f with
    | zero => intro i J hmz; exact absurd hmz (Nat.not_lt_zero _)
    | succ f ih3 =>
      intro i J hmz hi hi2 hJ fJ
      refine x_iload C dX5_add_3 0 rfl ?_
      refine x_iload_n C dX5_add_5 4 rfl rfl ?_
      refine x_icmp_geN (tgt := 23) C (by omega) (by omega) dX5_add_6 (by decide) (fun c6 => ?_) (fun c6 => ?_)
      · exact x_vret C E (Nat.le_of_ble_eq_true rfl) (Nat.le_of_ble_eq_true rfl) dX5_add_23 (⟨rfl, J, rfl, by rw [show c = i by omega]; exact hJ, fJ⟩)
      · refine x_aload_n C dX5_add_9 1 rfl rfl ?_
        refine x_aload_n C dX5_add_10 2 rfl rfl ?_
        refine x_iload C dX5_add_11 0 rfl ?_
        refine x_ialdN C hTa (by omega) (by omega) dX5_add_13 ?_
        refine x_callV C (ok_X5_addByte h s w hTh hRs hRw hTs hTw hh0 hs0 hw0 hhs hhw hsw hsa hT92 (fun t ht => by rw [fJ 92 n92.2.2 n92.1 n92.2.1]; exact h92 t ht) n92 m (k + (i - b)) _ hJ (by rw [fJ a ha.1 ha.2.1 ha.2.2, hm (i - b) (by omega), show b + (i - b) = i by omega])) mv_X5_addByte ml_X5_34 hTh rfl rfl rfl (Nat.le_of_ble_eq_true rfl) (hrm (rm := { frames := 0, cells := 0, slots := 0, locals := 0 }) hZ ⟨Nat.le_of_ble_eq_true rfl, Nat.le_of_ble_eq_true rfl⟩) (hcs hZ ⟨Nat.le_of_ble_eq_true rfl, Nat.le_of_ble_eq_true rfl⟩) dX5_add_14 (fun v G' hp => ?_)
        obtain ⟨rfl, J1, rfl, hJ1, fJ1⟩ := hp
        show hX z 0 0 (T, J1, L, R, A) [(4, .int (nI i)), (0, .ref (A h)), (1, .ref (A a)), (2, .int (nI b)), (3, .int (nI c))] 17 []
        refine x_iinc (v := nI (i + 1)) (lv' := [(4, .int (nI (i + 1))), (0, .ref (A h)), (1, .ref (A a)), (2, .int (nI b)), (3, .int (nI c))]) C dX5_add_17 0 rfl (nI_inc 1) (Nat.lt_of_lt_of_eq (by decide) hN.symm) rfl ?_
        refine x_goto (tgt := 3) C dX5_add_20 (by decide) ?_
        refine x_sub (lv' := _) [0, 1, 2, 3, 4] rfl ?_
        exact ih3 (i + 1) J1 (by omega) (by omega) (by omega) (by rw [show k + (i + 1 - b) = k + (i - b) + 1 by omega]; exact hJ1) (fun q q1 q2 q3 => (fJ1 q q1 q2 q3).trans (fJ q q1 q2 q3))
  refine x_sub (lv' := _) [0, 1, 2, 3, 4] rfl ?_
  exact L3 _ b I (Nat.lt_succ_self _) (by omega) (by omega) (by rw [show k + (b - b) = k by omega]; exact hA) (fun _ _ _ _ => rfl)

set_option maxHeartbeats 4000000 in
set_option maxRecDepth 100000 in
theorem ok_X5_addNumber {l : Launch} {a0 : Nat} {D : va_G} {sa : Nat → Nat} {T : Nat → Option hKd} {I : Nat → Nat → Int32} {L : Nat → Nat → Int64} {R : Nat → Nat → Option Nat} {A : Nat → Nat} (h s w : Nat) (hTh : T h = some (.inr 5)) (hRs : R h 0 = some s) (hRw : R h 1 = some w) (hTs : T s = some (.inl (.int, 8))) (hTw : T w = some (.inl (.int, 64))) (hh0 : a0 ≤ A h) (hs0 : a0 ≤ A s) (hw0 : a0 ≤ A w) (hhs : h ≠ s) (hhw : h ≠ w) (hsw : s ≠ w) (hsa : ∀ k, k < 5 → sa k = A (90 + k)) (hT92 : T 92 = some (.inl (.int, 64))) (h92 : ∀ t, t < 64 → I 92 t = kSha t) (n92 : 92 ≠ s ∧ 92 ≠ w ∧ 92 ≠ h) (m : Nat → Int32) (k : Nat) (v : Int32) (hA : shaAt I h s w m k) (hm : ∀ q, q < 4 → m (k + q) = iusr v (nI (24 - 8 * q)) &&& nI 255) : hM l a0 D sa yX5_addNumber cX5_addNumber 3 none { frames := 2, cells := 0, slots := 0, locals := 54 } [.ref (A h), .int v] (T, I, L, R, A) (fun r G' => r = none ∧ ∃ I', G' = (T, I', L, R, A) ∧ shaAt I' h s w m (k + 4) ∧ ∀ q, q ≠ h → q ≠ s → q ≠ w → I' q = I q) := by
  refine hM.of (by decide +kernel) (Nat.le_of_ble_eq_true rfl) ?_
  intro z hl h0 hD hS hN C E
  subst hl; subst h0; subst hD; subst hS
  have C : hC z RX5 cX5_addNumber := C
  have hZ := E.2.2.2.1
  show hX z 0 0 (T, I, L, R, A) [(0, .ref (A h)), (1, .int v)] 0 []
  refine x_bipush (v := nI 24) C dX5_addNumber_0 (by decide +kernel) ?_
  refine x_istore_n (lv' := [(2, .int (nI 24)), (0, .ref (A h)), (1, .int v)]) C dX5_addNumber_2 rfl (Nat.lt_of_lt_of_eq (by decide) hN.symm) rfl ?_
  have L3 : ∀ (f : Nat) (q : Nat) (x : Int32) (J : Nat → Nat → Int32), 5 - q < f → (q ≤ 4) → (x = nI 24 - nI (8 * q)) → (shaAt J h s w m (k + q)) → (∀ q, q ≠ h → q ≠ s → q ≠ w → J q = I q) → hX z 0 0 (T, J, L, R, A) [(2, .int x), (0, .ref (A h)), (1, .int v)] 3 [] := by
    intro f
    induction f with
    | zero => intro q x J hmz; exact absurd hmz (Nat.not_lt_zero _)
    | succ f ih3 =>
      intro q x J hmz hq hx hJ fJ
      refine x_iload_n C dX5_addNumber_3 0 rfl rfl ?_
      refine x_if_lt (tgt := 24) C dX5_addNumber_4 (by decide) (fun c4 => ?_) (fun c4 => ?_)
      · exact x_vret C E (Nat.le_of_ble_eq_true rfl) (Nat.le_of_ble_eq_true rfl) dX5_addNumber_24 (⟨rfl, J, rfl, by rw [show 4 = q from ((dn_lt q (by omega)).mp (by rw [← hx]; exact c4)).symm]; exact hJ, fJ⟩)
      · have hq4 : q + 1 ≤ 4 := by
          have : ¬ q = 4 := fun e => c4 (by rw [hx]; exact (dn_lt q (by omega)).mpr e)
          omega
        refine x_aload_n C dX5_addNumber_7 1 rfl rfl ?_
        refine x_iload_n C dX5_addNumber_8 2 rfl rfl ?_
        refine x_iload_n C dX5_addNumber_9 0 rfl rfl ?_
        refine x_iushr C dX5_addNumber_10 ?_
        refine x_sipush (v := nI 255) C dX5_addNumber_11 (by decide +kernel) ?_
        refine x_iand C dX5_addNumber_14 ?_
        refine x_callV C (ok_X5_addByte h s w hTh hRs hRw hTs hTw hh0 hs0 hw0 hhs hhw hsw hsa hT92 (fun t ht => by rw [fJ 92 n92.2.2 n92.1 n92.2.1]; exact h92 t ht) n92 m (k + q) _ hJ (by rw [hm q (by omega), hx, pk_sub (by omega)])) mv_X5_addByte ml_X5_34 hTh rfl rfl rfl (Nat.le_of_ble_eq_true rfl) (hrm (rm := { frames := 0, cells := 0, slots := 0, locals := 0 }) hZ ⟨Nat.le_of_ble_eq_true rfl, Nat.le_of_ble_eq_true rfl⟩) (hcs hZ ⟨Nat.le_of_ble_eq_true rfl, Nat.le_of_ble_eq_true rfl⟩) dX5_addNumber_15 (fun v G' hp => ?_)
        obtain ⟨rfl, J1, rfl, hJ1, fJ1⟩ := hp
        show hX z 0 0 (T, J1, L, R, A) [(2, .int x), (0, .ref (A h)), (1, .int v)] 18 []
        refine x_iinc (v := x + (-8)) (lv' := [(2, .int (x + (-8))), (0, .ref (A h)), (1, .int v)]) C dX5_addNumber_18 0 rfl (by rfl) (Nat.lt_of_lt_of_eq (by decide) hN.symm) rfl ?_
        refine x_goto (tgt := 3) C dX5_addNumber_21 (by decide) ?_
        refine x_sub (lv' := _) [0, 1, 2] rfl ?_
        exact ih3 (q + 1) (x + (-8)) J1 (by omega) hq4 (by rw [hx]; exact dn_s q (by omega)) hJ1 (fun q q1 q2 q3 => (fJ1 q q1 q2 q3).trans (fJ q q1 q2 q3))
  refine x_sub (lv' := _) [0, 1, 2] rfl ?_
  exact L3 _ 0 (nI 24) I (Nat.lt_succ_self _) (by omega) (by decide +kernel) hA (fun _ _ _ _ => rfl)

