/-- where a limb's bits begin -/
def cvS (i : Nat) : Nat := (51 * i + 1) / 2
theorem cvS_s (i : Nat) : cvS (i + 1) = cvS i + wd i := by
  unfold cvS wd
  rcases Nat.mod_two_eq_zero_or_one i with h | h
  · obtain ⟨k, rfl⟩ : ∃ k, i = 2 * k := ⟨i / 2, by omega⟩
    omega
  · obtain ⟨k, rfl⟩ : ∃ k, i = 2 * k + 1 := ⟨i / 2, by omega⟩
    omega
theorem cvS_le {i : Nat} (h : i ≤ 9) : cvS i ≤ 230 := by unfold cvS; omega
def upF (b : Nat → Nat) (i : Nat) : Int := ((by4 b (cvS i / 8) / 2 ^ (cvS i % 8) % 2 ^ wd i : Nat) : Int)
theorem upF_b (b : Nat → Nat) : cvB (upF b) := fun i _ => by
  unfold upF
  have h1 : by4 b (cvS i / 8) / 2 ^ (cvS i % 8) % 2 ^ wd i < 2 ^ wd i := Nat.mod_lt _ (Nat.two_pow_pos _)
  rcases wd_or i with e | e <;> rw [e.1] at h1 ⊢
  · rw [if_pos e.2, if_pos e.2]; omega
  · rw [if_neg (by omega), if_neg (by omega)]; omega
set_option maxHeartbeats 4000000 in
set_option maxRecDepth 100000 in
theorem ok_X1_unpack {l : Launch} {a0 : Nat} {D : va_G} {sa : Nat → Nat} {T : Nat → Option hKd} {I : Nat → Nat → Int32} {L : Nat → Nat → Int64} {R : Nat → Nat → Option Nat} {A : Nat → Nat} (a na o : Nat) (b : Nat → Nat) (hTa : T a = some (.inl (.int, na))) (hna : na < 2 ^ 31) (hna2 : 32 ≤ na) (hTo : T o = some (.inl (.long, 10))) (ho0 : a0 ≤ A o) (hb : ∀ j, j < 32 → I a j = nI (b j) ∧ b j < 256) : hM l a0 D sa yX1_unpack cX1_unpack 4 none { frames := 1, cells := 0, slots := 0, locals := 25 } [.ref (A a), .ref (A o)] (T, I, L, R, A) (fun r G' => r = none ∧ ∃ L', G' = (T, I, L', R, A) ∧ (∀ j, j < 10 → L' o j = lZ (upF b j)) ∧ ∀ q, q ≠ o → L' q = L q) := by
  refine hM.of (by decide +kernel) (Nat.le_of_ble_eq_true rfl) ?_
  intro z hl h0 hD hS hN C E
  subst hl; subst h0; subst hD; subst hS
  have C : hC z RX1 cX1_unpack := C
  have hZ := E.2.2.2.1
  show hX z 0 0 (T, I, L, R, A) [(0, .ref (A a)), (1, .ref (A o))] 0 []
  refine x_iconst (v := nI 0) C dX1_unpack_0 (by decide +kernel) ?_
  refine x_istore_n (lv' := [(2, .int (nI 0)), (0, .ref (A a)), (1, .ref (A o))]) C dX1_unpack_1 rfl (Nat.lt_of_lt_of_eq (by decide) hN.symm) rfl ?_
  refine x_iconst (v := nI 0) C dX1_unpack_2 (by decide +kernel) ?_
  refine x_istore_n (lv' := [(3, .int (nI 0)), (2, .int (nI 0)), (0, .ref (A a)), (1, .ref (A o))]) C dX1_unpack_3 rfl (Nat.lt_of_lt_of_eq (by decide) hN.symm) rfl ?_
  have L4 : ∀ (fuel_ : Nat) (i : Nat) (st : Nat) (K : Nat → Nat → Int64), 10 - i < fuel_ → (i ≤ 10) → (st = cvS i) → (∀ q, q ≠ o → K q = L q) → (∀ j, j < 10 → K o j = if j < i then lZ (upF b j) else L o j) → hX z 0 0 (T, I, K, R, A) [(3, .int (nI i)), (2, .int (nI st)), (0, .ref (A a)), (1, .ref (A o))] 4 [] := by
    intro fuel_
    induction fuel_ with
    | zero => intro i st K hmz; exact absurd hmz (Nat.not_lt_zero _)
    | succ fuel_ ih4 =>
      intro i st K hmz hi hst hK hO
      refine x_iload_n C dX1_unpack_4 0 rfl rfl ?_
      refine x_bipush (v := nI 10) C dX1_unpack_5 (by decide +kernel) ?_
      refine x_icmp_geN (tgt := 35) C (by omega) (by omega) dX1_unpack_7 (by decide) (fun c7 => ?_) (fun c7 => ?_)
      · exact x_vret C E (Nat.le_of_ble_eq_true rfl) (Nat.le_of_ble_eq_true rfl) dX1_unpack_35 (⟨rfl, K, rfl, fun j hj => by rw [hO j hj, if_pos (by omega)], hK⟩)
      · refine x_aload_n C dX1_unpack_10 3 rfl rfl ?_
        refine x_iload_n C dX1_unpack_11 0 rfl rfl ?_
        refine x_aload_n C dX1_unpack_12 2 rfl rfl ?_
        refine x_iload_n C dX1_unpack_13 1 rfl rfl ?_
        refine x_iload_n C dX1_unpack_14 0 rfl rfl ?_
        refine x_callS C (ok_X1_width i (by omega)) ms_X1_width ml_X1_98 rfl rfl (Nat.le_of_ble_eq_true rfl) (hrm (rm := { frames := 0, cells := 0, slots := 0, locals := 0 }) hZ ⟨Nat.le_of_ble_eq_true rfl, Nat.le_of_ble_eq_true rfl⟩) (hcs hZ ⟨Nat.le_of_ble_eq_true rfl, Nat.le_of_ble_eq_true rfl⟩) dX1_unpack_15 (fun v G' hp => ?_)
        obtain ⟨rfl, rfl⟩ := hp
        show hX z 0 0 (T, I, K, R, A) [(3, .int (nI i)), (2, .int (nI st)), (0, .ref (A a)), (1, .ref (A o))] 18 [.int (nI (wd i)), .int (nI st), .ref (A a), .int (nI i), .ref (A o)]
        refine x_callSN C (ok_X10_bitsOf a na st (wd i) hTa hna (by have := cvS_le (show i ≤ 9 by omega); omega) (by have := cvS_le (show i ≤ 9 by omega); omega)) ms_X10_bitsOf ml_X1_102 rfl rfl (Nat.le_of_ble_eq_true rfl) (hrm (rm := { frames := 0, cells := 0, slots := 0, locals := 0 }) hZ ⟨Nat.le_of_ble_eq_true rfl, Nat.le_of_ble_eq_true rfl⟩) (hcs hZ ⟨Nat.le_of_ble_eq_true rfl, Nat.le_of_ble_eq_true rfl⟩) dX1_unpack_18 (fun v G' hp => ?_)
        obtain ⟨rfl, rfl⟩ := hp
        show hX z 0 0 (T, I, K, R, A) [(3, .int (nI i)), (2, .int (nI st)), (0, .ref (A a)), (1, .ref (A o))] 21 [.long (bitsF (I a) st (wd i)), .int (nI i), .ref (A o)]
        refine x_eql (y := lZ (upF b i)) (by rw [hst]; exact bitsF_val (fun j hj => hb _ (by have := cvS_le (show i ≤ 9 by omega); omega)) (by unfold wd; omega)) ?_
        refine x_lastN C hTo ho0 (by omega) (by omega) dX1_unpack_21 (fun L1 eL1 => ?_)
        refine x_iload_n C dX1_unpack_22 1 rfl rfl ?_
        refine x_iload_n C dX1_unpack_23 0 rfl rfl ?_
        refine x_callS C (ok_X1_width i (by omega)) ms_X1_width ml_X1_98 rfl rfl (Nat.le_of_ble_eq_true rfl) (hrm (rm := { frames := 0, cells := 0, slots := 0, locals := 0 }) hZ ⟨Nat.le_of_ble_eq_true rfl, Nat.le_of_ble_eq_true rfl⟩) (hcs hZ ⟨Nat.le_of_ble_eq_true rfl, Nat.le_of_ble_eq_true rfl⟩) dX1_unpack_24 (fun v G' hp => ?_)
        obtain ⟨rfl, rfl⟩ := hp
        show hX z 0 0 (T, I, L1, R, A) [(3, .int (nI i)), (2, .int (nI st)), (0, .ref (A a)), (1, .ref (A o))] 27 [.int (nI (wd i)), .int (nI st)]
        refine x_iaddN C dX1_unpack_27 ?_
        refine x_istore_n (lv' := [(2, .int (nI (st + (wd i)))), (3, .int (nI i)), (0, .ref (A a)), (1, .ref (A o))]) C dX1_unpack_28 rfl (Nat.lt_of_lt_of_eq (by decide) hN.symm) rfl ?_
        refine x_iinc (v := nI (i + 1)) (lv' := [(3, .int (nI (i + 1))), (2, .int (nI (st + (wd i)))), (0, .ref (A a)), (1, .ref (A o))]) C dX1_unpack_29 1 rfl (nI_inc 1) (Nat.lt_of_lt_of_eq (by decide) hN.symm) rfl ?_
        refine x_goto (tgt := 4) C dX1_unpack_32 (by decide) ?_
        refine x_sub (lv' := _) [0, 1, 2, 3] rfl ?_
        exact ih4 (i + 1) (st + (wd i)) L1 (by omega) (by omega) (by rw [hst, cvS_s]) (fun q hq => by rw [eL1, up_ne _ _ hq]; exact hK q hq) (by rw [eL1]; exact wr_al (H := fun j => lZ (upF b j)) hO rfl)
  refine x_sub (lv' := _) [0, 1, 2, 3] rfl ?_
  exact L4 _ 0 0 L (Nat.lt_succ_self _) (by omega) rfl (fun _ _ => rfl) (fun j _ => by rw [if_neg (by omega)])

