/-! ===== Pattern ===== -/
def upN {α : Type} (f : Nat → α) (k : Nat) (v : α) : Nat → α := fun j => if j = k then v else f j
theorem upN_same {α : Type} (f : Nat → α) (k : Nat) (v : α) : upN f k v k = v := if_pos rfl
theorem upN_other {α : Type} (f : Nat → α) {k j : Nat} (v : α) (h : j ≠ k) : upN f k v j = f j := if_neg h
theorem x_min {z : hZ} {own : String} {cc : ByteArray} {cells slots pc : Nat} {G : hG} {lv : List (Nat × Value)} {rest : List Value} (C : hC z own cc) {index : Nat} (hl : Cond.methodLink own index Lib.Math.min.name ∈ lw_g) (hR : 1 ≤ (zR z).frames ∧ (rest.map fun v => v.category).sum + 13 ≤ (zR z).locals) (hcs : cells ≤ (zR z).cells ∧ slots ≤ (zR z).slots) {x y : Int32} (d : decode cc pc = .ok (.invokestatic index, 3)) (kk : hX z cells slots G lv (pc + 3) (.int (if y < x then y else x) :: rest)) : hX z cells slots G lv pc (.int y :: .int x :: rest) := fun H locs ls h1 h2 h3 => va_mmin C.1 C.2.1 (C.2.2.1.trans h3.1.symm) C.2.2.2.1 (C.2.2.2.2.1 _ hl) (C.2.2.2.2.1 _ (lw_in2 (i := 142) (by decide +kernel) (by decide +kernel))) (C.2.2.2.2.1 _ (lw_in1 (i := 12) (by decide +kernel) (by decide +kernel))) (C.2.2.2.2.1 _ (lw_in2 (i := 143) rfl rfl)) hR.1 hR.2 hcs.1 hcs.2 d (kk H locs ls h1 h2 h3)
def szF (ms : Nat) (sz : Nat → Nat) (m : Nat) : Int32 := if m < ms then nI (sz m) else -1
def tkF (ms : Nat) (sz : Nat → Nat) (tk : Nat → Nat → Nat) (m k : Nat) : Int32 := if m < ms ∧ k < sz m then nI (tk m k) else -1
theorem szF_T {ms : Nat} {sz : Nat → Nat} {m k : Nat} (hk : k < 2 ^ 31) (hs : sz m ≤ 5) (h : szF ms sz m ≤ nI k) : ¬ (m < ms ∧ k < sz m) := by
  rintro ⟨h1, h2⟩
  unfold szF at h
  rw [if_pos h1] at h
  have := (nI_leI (by omega) hk).mp h
  omega
theorem szF_F {ms : Nat} {sz : Nat → Nat} {m k : Nat} (hk : k < 2 ^ 31) (hs : sz m ≤ 5) (h : ¬ szF ms sz m ≤ nI k) : m < ms ∧ k < sz m := by
  unfold szF at h
  by_cases h1 : m < ms
  · rw [if_pos h1] at h
    exact ⟨h1, Nat.not_le.mp fun q => h ((nI_leI (by omega) hk).mpr q)⟩
  · rw [if_neg h1] at h
    exfalso; apply h
    exact Int32.le_trans (show (-1 : Int32) ≤ nI 0 by decide +kernel) ((nI_leI (by decide) hk).mpr (Nat.zero_le k))
theorem ptI.msg {I J : Nat → Nat → Int32} {P ms : Nat} {kn : Nat → Bool} {sz : Nat → Nat} {tk : Nat → Nat → Nat} {hs : Bool} (h : ptI I P kn ms sz tk hs) (hm : ms < 6) (e : J = va_up I P (upd (I P) 4 (nI (ms + 1)))) : ptI J P kn (ms + 1) sz tk hs := by
  obtain ⟨⟨h0, h1, h4, h5⟩, h6, h7, h8, h9, h10, h11⟩ := h
  refine ⟨⟨?_, ?_, ?_, ?_⟩, fun m hm => ?_, fun m hm k hk => ?_, by omega, h9, h10, fun m hm => h11 m (by omega)⟩
  · rw [e, va_up_same]; exact h0
  · rw [e, va_up_same]; exact h1
  · rw [e, va_up_same]; simp [upd]
  · rw [e, va_up_same]; exact h5
  · rw [e, va_up_other _ _ (by omega)]; exact h6 m hm
  · rw [e, va_up_other _ _ (by omega)]; exact h7 m hm k hk
theorem ptI.tok {I J K : Nat → Nat → Int32} {P ms t : Nat} {kn : Nat → Bool} {sz : Nat → Nat} {tk : Nat → Nat → Nat} {hs : Bool} (h : ptI I P kn ms sz tk hs) (hm : 0 < ms) (hz : sz (ms - 1) < 5) (ht : t ≤ 5) (e : J = va_up I (P + 2 + (ms - 1)) (upd (I (P + 2 + (ms - 1))) (sz (ms - 1)) (nI t))) (e2 : K = va_up J (P + 8) (upd (J (P + 8)) (ms - 1) (nI (sz (ms - 1) + 1)))) : ptI K P kn ms (upN sz (ms - 1) (sz (ms - 1) + 1)) (upN tk (ms - 1) (upN (tk (ms - 1)) (sz (ms - 1)) t)) hs := by
  obtain ⟨⟨h0, h1, h4, h5⟩, h6, h7, h8, h9, h10, h11⟩ := h
  have k0 : K P = I P := by rw [e2, va_up_other _ _ (by omega), e, va_up_other _ _ (by omega)]
  refine ⟨⟨by rw [k0]; exact h0, by rw [k0]; exact h1, by rw [k0]; exact h4, by rw [k0]; exact h5⟩, fun m hm => ?_, fun m hm k hk => ?_, h8, fun m => ?_, fun m k => ?_, fun m hm => ?_⟩
  · rw [e2, va_up_same]
    unfold upd
    by_cases hq : m = ms - 1
    · rw [if_pos hq, hq, upN_same]
    · rw [if_neg hq, upN_other _ _ hq, e, va_up_other _ _ (by omega)]; exact h6 m hm
  · rw [e2, va_up_other _ _ (by omega), e]
    by_cases hq : m = ms - 1
    · rw [hq, va_up_same, upN_same]
      unfold upd
      by_cases hk2 : k = sz (ms - 1)
      · rw [if_pos hk2, hk2, upN_same]
      · rw [if_neg hk2, upN_other _ _ hk2]; exact h7 _ (by omega) k hk
    · rw [va_up_other _ _ (by omega), upN_other _ _ hq]; exact h7 m hm k hk
  · by_cases hq : m = ms - 1
    · rw [hq, upN_same]; omega
    · rw [upN_other _ _ hq]; exact h9 m
  · by_cases hq : m = ms - 1
    · rw [hq, upN_same]
      by_cases hk2 : k = sz (ms - 1)
      · rw [hk2, upN_same]; exact ht
      · rw [upN_other _ _ hk2]; exact h10 _ k
    · rw [upN_other _ _ hq]; exact h10 m k
  · rw [upN_other _ _ (by omega)]; exact h11 m hm
set_option maxHeartbeats 4000000 in
set_option maxRecDepth 100000 in
theorem ok_X3_addMessage {l : Launch} {a0 : Nat} {D : va_G} {sa : Nat → Nat} {T : Nat → Option hKd} {I : Nat → Nat → Int32} {L : Nat → Nat → Int64} {R : Nat → Nat → Option Nat} {A : Nat → Nat} (P : Nat) (hP : isPt T R A a0 P) (kn : Nat → Bool) (ms : Nat) (sz : Nat → Nat) (tk : Nat → Nat → Nat) (hs : Bool) (hI : ptI I P kn ms sz tk hs)  : hM l a0 D sa yX3_addMessage cX3_addMessage 1 (some .int) { frames := 0, cells := 0, slots := 0, locals := 0 } [.ref (A P)] (T, I, L, R, A) (fun r G' => (6 ≤ ms ∧ r = some (.int (-4)) ∧ G' = (T, I, L, R, A)) ∨ (ms < 6 ∧ r = some (.int (nI (ms + 1))) ∧ ∃ I', G' = (T, I', L, R, A) ∧ ptI I' P kn (ms + 1) sz tk hs ∧ fx [P] I I')) := by
  refine hM.of (by decide +kernel) (Nat.le_of_ble_eq_true rfl) ?_
  intro z hl h0 hD hS hN C E
  subst hl; subst h0; subst hD; subst hS
  have C : hC z RX3 cX3_addMessage := C
  have hZ := E.2.2.2.1
  show hX z 0 0 (T, I, L, R, A) [(0, .ref (A P))] 0 []
  have hms := hI.2.2.2.1
  refine x_aload_n C dX3_addMessage_0 0 rfl rfl ?_
  refine x_getiN C fl_X3_20 hP.1.1 rfl dX3_addMessage_1 ?_
  refine x_eqi (y := nI ms) hI.1.2.2.1 ?_
  refine x_bipush (v := nI 6) C dX3_addMessage_4 (by decide +kernel) ?_
  refine x_icmp_ltN (tgt := 12) C (by omega) (by omega) dX3_addMessage_6 (by decide) (fun c6 => ?_) (fun c6 => ?_)
  · refine x_aload_n C dX3_addMessage_12 0 rfl rfl ?_
    refine x_dup C dX3_addMessage_13 rfl ?_
    refine x_getiN C fl_X3_20 hP.1.1 rfl dX3_addMessage_14 ?_
    refine x_eqi (y := nI ms) hI.1.2.2.1 ?_
    refine x_iconst (v := nI 1) C dX3_addMessage_17 (by decide +kernel) ?_
    refine x_iaddN C dX3_addMessage_18 ?_
    refine x_putiN C fl_X3_20 hP.1.1 hP.1.2 rfl dX3_addMessage_19 (fun I1 eI1 => ?_)
    refine x_aload_n C dX3_addMessage_22 0 rfl rfl ?_
    refine x_getiN C fl_X3_20 hP.1.1 rfl dX3_addMessage_23 ?_
    refine x_eqi (y := nI (ms + 1)) (by rw [eI1, va_up_same]; simp [upd]) ?_
    exact x_iret C E (Nat.le_of_ble_eq_true rfl) (Nat.le_of_ble_eq_true rfl) dX3_addMessage_26 (Or.inr ⟨c6, rfl, _, rfl, hI.msg c6 eI1, by rw [eI1]; exact fx.rf.up (by simp)⟩)
  · refine x_bipush (v := (-4)) C dX3_addMessage_9 (by decide +kernel) ?_
    exact x_iret C E (Nat.le_of_ble_eq_true rfl) (Nat.le_of_ble_eq_true rfl) dX3_addMessage_11 (Or.inl ⟨c6, rfl, rfl⟩)

set_option maxHeartbeats 4000000 in
set_option maxRecDepth 100000 in
theorem ok_X3_addToken {l : Launch} {a0 : Nat} {D : va_G} {sa : Nat → Nat} {T : Nat → Option hKd} {I : Nat → Nat → Int32} {L : Nat → Nat → Int64} {R : Nat → Nat → Option Nat} {A : Nat → Nat} (P : Nat) (hP : isPt T R A a0 P) (kn : Nat → Bool) (ms : Nat) (sz : Nat → Nat) (tk : Nat → Nat → Nat) (hs : Bool) (hI : ptI I P kn ms sz tk hs) (t : Nat) (ht : t ≤ 5) : hM l a0 D sa yX3_addToken cX3_addToken 3 (some .int) { frames := 0, cells := 0, slots := 0, locals := 0 } [.ref (A P), .int (nI t)] (T, I, L, R, A) (fun r G' => (ms = 0 ∧ r = some (.int (-3)) ∧ G' = (T, I, L, R, A)) ∨ (0 < ms ∧ 5 ≤ sz (ms - 1) ∧ r = some (.int (-4)) ∧ G' = (T, I, L, R, A)) ∨ (0 < ms ∧ sz (ms - 1) < 5 ∧ r = some (.int (nI (sz (ms - 1) + 1))) ∧ ∃ I', G' = (T, I', L, R, A) ∧ ptI I' P kn ms (upN sz (ms - 1) (sz (ms - 1) + 1)) (upN tk (ms - 1) (upN (tk (ms - 1)) (sz (ms - 1)) t)) hs ∧ fx [P + 8, P + 2 + (ms - 1)] I I')) := by
  refine hM.of (by decide +kernel) (Nat.le_of_ble_eq_true rfl) ?_
  intro z hl h0 hD hS hN C E
  subst hl; subst h0; subst hD; subst hS
  have C : hC z RX3 cX3_addToken := C
  have hZ := E.2.2.2.1
  show hX z 0 0 (T, I, L, R, A) [(0, .ref (A P)), (1, .int (nI t))] 0 []
  have hms := hI.2.2.2.1
  refine x_aload_n C dX3_addToken_0 0 rfl rfl ?_
  refine x_getiN C fl_X3_20 hP.1.1 rfl dX3_addToken_1 ?_
  refine x_eqi (y := nI ms) hI.1.2.2.1 ?_
  refine x_if_neN (tgt := 10) C (by first | omega | (have h1_ := hI.2.2.2.2.1 (ms - 1); omega)) dX3_addToken_4 (by decide) (fun c4 => ?_) (fun c4 => ?_)
  · refine x_aload_n C dX3_addToken_10 0 rfl rfl ?_
    refine x_getiN C fl_X3_20 hP.1.1 rfl dX3_addToken_11 ?_
    refine x_eqi (y := nI ms) hI.1.2.2.1 ?_
    refine x_iconst (v := nI 1) C dX3_addToken_14 (by decide +kernel) ?_
    refine x_isubN C (by first | omega | (have h1_ := hI.2.2.2.2.1 (ms - 1); omega)) dX3_addToken_15 ?_
    refine x_istore_n (lv' := [(2, .int (nI (ms - 1))), (0, .ref (A P)), (1, .int (nI t))]) C dX3_addToken_16 rfl (Nat.lt_of_lt_of_eq (by decide) hN.symm) rfl ?_
    refine x_aload_n C dX3_addToken_17 1 rfl rfl ?_
    refine x_getrN C fl_X3_16 hP.1.1 rfl hP.2.2.2.2.1 dX3_addToken_18 ?_
    refine x_iload_n C dX3_addToken_21 0 rfl rfl ?_
    refine x_ialdN C hP.2.2.1.1 (by first | omega | (have h1_ := hI.2.2.2.2.1 (ms - 1); omega)) (by omega) dX3_addToken_22 ?_
    refine x_eqi (y := nI (sz (ms - 1))) (hI.2.1 (ms - 1) (by omega)) ?_
    refine x_iconst (v := nI 5) C dX3_addToken_23 (by decide +kernel) ?_
    refine x_icmp_ltN (tgt := 30) C (by first | omega | (have h1_ := hI.2.2.2.2.1 (ms - 1); omega)) (by first | omega | (have h1_ := hI.2.2.2.2.1 (ms - 1); omega)) dX3_addToken_24 (by decide) (fun c24 => ?_) (fun c24 => ?_)
    · refine x_aload_n C dX3_addToken_30 1 rfl rfl ?_
      refine x_getrN C fl_X3_13 hP.1.1 rfl hP.2.2.2.1 dX3_addToken_31 ?_
      refine x_iload_n C dX3_addToken_34 0 rfl rfl ?_
      refine x_aaldN C hP.2.1.1 rfl (by first | omega | (have h1_ := hI.2.2.2.2.1 (ms - 1); omega)) (by omega) (hP.2.2.2.2.2 (ms - 1) (by omega)).1 dX3_addToken_35 ?_
      refine x_aload_n C dX3_addToken_36 1 rfl rfl ?_
      refine x_getrN C fl_X3_16 hP.1.1 rfl hP.2.2.2.2.1 dX3_addToken_37 ?_
      refine x_iload_n C dX3_addToken_40 0 rfl rfl ?_
      refine x_ialdN C hP.2.2.1.1 (by first | omega | (have h1_ := hI.2.2.2.2.1 (ms - 1); omega)) (by omega) dX3_addToken_41 ?_
      refine x_eqi (y := nI (sz (ms - 1))) (hI.2.1 (ms - 1) (by omega)) ?_
      refine x_iload_n C dX3_addToken_42 2 rfl rfl ?_
      refine x_iastN C (hP.2.2.2.2.2 (ms - 1) (by omega)).2.1 (hP.2.2.2.2.2 (ms - 1) (by omega)).2.2 (by first | omega | (have h1_ := hI.2.2.2.2.1 (ms - 1); omega)) (by omega) dX3_addToken_43 (fun I1 eI1 => ?_)
      refine x_aload_n C dX3_addToken_44 1 rfl rfl ?_
      refine x_getrN C fl_X3_16 hP.1.1 rfl hP.2.2.2.2.1 dX3_addToken_45 ?_
      refine x_iload_n C dX3_addToken_48 0 rfl rfl ?_
      refine x_dup2 C dX3_addToken_49 rfl rfl ?_
      refine x_ialdN C hP.2.2.1.1 (by first | omega | (have h1_ := hI.2.2.2.2.1 (ms - 1); omega)) (by omega) dX3_addToken_50 ?_
      refine x_eqi (y := nI (sz (ms - 1))) (by rw [eI1, va_up_other _ _ (by omega)]; exact hI.2.1 _ (by omega)) ?_
      refine x_iconst (v := nI 1) C dX3_addToken_51 (by decide +kernel) ?_
      refine x_iaddN C dX3_addToken_52 ?_
      refine x_iastN C hP.2.2.1.1 hP.2.2.1.2 (by first | omega | (have h1_ := hI.2.2.2.2.1 (ms - 1); omega)) (by omega) dX3_addToken_53 (fun I2 eI2 => ?_)
      refine x_aload_n C dX3_addToken_54 1 rfl rfl ?_
      refine x_getrN C fl_X3_16 hP.1.1 rfl hP.2.2.2.2.1 dX3_addToken_55 ?_
      refine x_iload_n C dX3_addToken_58 0 rfl rfl ?_
      refine x_ialdN C hP.2.2.1.1 (by first | omega | (have h1_ := hI.2.2.2.2.1 (ms - 1); omega)) (by omega) dX3_addToken_59 ?_
      refine x_eqi (y := nI (sz (ms - 1) + 1)) (by rw [eI2, va_up_same]; simp [upd]) ?_
      exact x_iret C E (Nat.le_of_ble_eq_true rfl) (Nat.le_of_ble_eq_true rfl) dX3_addToken_60 (Or.inr (Or.inr ⟨by omega, c24, rfl, _, rfl, hI.tok (by omega) c24 ht eI1 eI2, by rw [eI2, eI1]; exact (fx.rf.up (by simp)).up (by simp)⟩))
    · refine x_bipush (v := (-4)) C dX3_addToken_27 (by decide +kernel) ?_
      exact x_iret C E (Nat.le_of_ble_eq_true rfl) (Nat.le_of_ble_eq_true rfl) dX3_addToken_29 (Or.inr (Or.inl ⟨by omega, c24, rfl, rfl⟩))
  · refine x_bipush (v := (-3)) C dX3_addToken_7 (by decide +kernel) ?_
    exact x_iret C E (Nat.le_of_ble_eq_true rfl) (Nat.le_of_ble_eq_true rfl) dX3_addToken_9 (Or.inl ⟨c4, rfl, rfl⟩)

set_option maxHeartbeats 4000000 in
set_option maxRecDepth 100000 in
theorem ok_X3_sizeOf {l : Launch} {a0 : Nat} {D : va_G} {sa : Nat → Nat} {T : Nat → Option hKd} {I : Nat → Nat → Int32} {L : Nat → Nat → Int64} {R : Nat → Nat → Option Nat} {A : Nat → Nat} (P : Nat) (hP : isPt T R A a0 P) (kn : Nat → Bool) (ms : Nat) (sz : Nat → Nat) (tk : Nat → Nat → Nat) (hs : Bool) (hI : ptI I P kn ms sz tk hs) (m : Nat) (hm : m < 2 ^ 31) : hM l a0 D sa yX3_sizeOf cX3_sizeOf 2 (some .int) { frames := 0, cells := 0, slots := 0, locals := 0 } [.ref (A P), .int (nI m)] (T, I, L, R, A) (fun r G' => r = some (.int (szF ms sz m)) ∧ G' = (T, I, L, R, A)) := by
  refine hM.of (by decide +kernel) (Nat.le_of_ble_eq_true rfl) ?_
  intro z hl h0 hD hS hN C E
  subst hl; subst h0; subst hD; subst hS
  have C : hC z RX3 cX3_sizeOf := C
  have hZ := E.2.2.2.1
  show hX z 0 0 (T, I, L, R, A) [(0, .ref (A P)), (1, .int (nI m))] 0 []
  have hms := hI.2.2.2.1
  refine x_iload_n C dX3_sizeOf_0 1 rfl rfl ?_
  refine x_if_ltN (tgt := 21) C (by omega) dX3_sizeOf_1 (by decide) ?_
  refine x_iload_n C dX3_sizeOf_4 1 rfl rfl ?_
  refine x_aload_n C dX3_sizeOf_5 0 rfl rfl ?_
  refine x_getiN C fl_X3_20 hP.1.1 rfl dX3_sizeOf_6 ?_
  refine x_eqi (y := nI ms) hI.1.2.2.1 ?_
  refine x_icmp_geN (tgt := 21) C (by omega) (by omega) dX3_sizeOf_9 (by decide) (fun c9 => ?_) (fun c9 => ?_)
  · refine x_iconst (v := (-1)) C dX3_sizeOf_21 (by decide +kernel) ?_
    exact x_iret C E (Nat.le_of_ble_eq_true rfl) (Nat.le_of_ble_eq_true rfl) dX3_sizeOf_22 (⟨by unfold szF; rw [if_neg (by omega)], rfl⟩)
  · refine x_aload_n C dX3_sizeOf_12 0 rfl rfl ?_
    refine x_getrN C fl_X3_16 hP.1.1 rfl hP.2.2.2.2.1 dX3_sizeOf_13 ?_
    refine x_iload_n C dX3_sizeOf_16 1 rfl rfl ?_
    refine x_ialdN C hP.2.2.1.1 (by omega) (by omega) dX3_sizeOf_17 ?_
    refine x_eqi (y := nI (sz m)) (hI.2.1 m (by omega)) ?_
    refine x_goto (tgt := 22) C dX3_sizeOf_18 (by decide) ?_
    exact x_iret C E (Nat.le_of_ble_eq_true rfl) (Nat.le_of_ble_eq_true rfl) dX3_sizeOf_22 (⟨by unfold szF; rw [if_pos (by omega)], rfl⟩)

set_option maxHeartbeats 4000000 in
set_option maxRecDepth 100000 in
theorem ok_X3_tokenAt {l : Launch} {a0 : Nat} {D : va_G} {sa : Nat → Nat} {T : Nat → Option hKd} {I : Nat → Nat → Int32} {L : Nat → Nat → Int64} {R : Nat → Nat → Option Nat} {A : Nat → Nat} (P : Nat) (hP : isPt T R A a0 P) (kn : Nat → Bool) (ms : Nat) (sz : Nat → Nat) (tk : Nat → Nat → Nat) (hs : Bool) (hI : ptI I P kn ms sz tk hs) (m k : Nat) (hm : m < 2 ^ 31) (hk : k < 2 ^ 31) : hM l a0 D sa yX3_tokenAt cX3_tokenAt 3 (some .int) { frames := 1, cells := 0, slots := 0, locals := 21 } [.ref (A P), .int (nI m), .int (nI k)] (T, I, L, R, A) (fun r G' => r = some (.int (tkF ms sz tk m k)) ∧ G' = (T, I, L, R, A)) := by
  refine hM.of (by decide +kernel) (Nat.le_of_ble_eq_true rfl) ?_
  intro z hl h0 hD hS hN C E
  subst hl; subst h0; subst hD; subst hS
  have C : hC z RX3 cX3_tokenAt := C
  have hZ := E.2.2.2.1
  show hX z 0 0 (T, I, L, R, A) [(0, .ref (A P)), (1, .int (nI m)), (2, .int (nI k))] 0 []
  have hms := hI.2.2.2.1
  refine x_iload_n C dX3_tokenAt_0 2 rfl rfl ?_
  refine x_if_ltN (tgt := 24) C (by omega) dX3_tokenAt_1 (by decide) ?_
  refine x_iload_n C dX3_tokenAt_4 2 rfl rfl ?_
  refine x_aload_n C dX3_tokenAt_5 0 rfl rfl ?_
  refine x_iload_n C dX3_tokenAt_6 1 rfl rfl ?_
  refine x_callV C (ok_X3_sizeOf P hP kn ms sz tk hs hI m (by omega)) mv_X3_sizeOf ml_X3_34 hP.1.1 rfl rfl rfl (Nat.le_of_ble_eq_true rfl) (hrm (rm := { frames := 0, cells := 0, slots := 0, locals := 0 }) hZ ⟨Nat.le_of_ble_eq_true rfl, Nat.le_of_ble_eq_true rfl⟩) (hcs hZ ⟨Nat.le_of_ble_eq_true rfl, Nat.le_of_ble_eq_true rfl⟩) dX3_tokenAt_7 (fun v G' hp => ?_)
  obtain ⟨rfl, rfl⟩ := hp
  show hX z 0 0 (T, I, L, R, A) [(0, .ref (A P)), (1, .int (nI m)), (2, .int (nI k))] 10 [.int (szF ms sz m), .int (nI k)]
  refine x_icmp_ge (tgt := 24) C dX3_tokenAt_10 (by decide) (fun c10 => ?_) (fun c10 => ?_)
  · refine x_iconst (v := (-1)) C dX3_tokenAt_24 (by decide +kernel) ?_
    exact x_iret C E (Nat.le_of_ble_eq_true rfl) (Nat.le_of_ble_eq_true rfl) dX3_tokenAt_25 (⟨by unfold tkF; rw [if_neg (szF_T hk (hI.2.2.2.2.1 m) c10)], rfl⟩)
  · have hmk := szF_F hk (hI.2.2.2.2.1 m) c10
    have hm5 := hI.2.2.2.2.1 m
    refine x_aload_n C dX3_tokenAt_13 0 rfl rfl ?_
    refine x_getrN C fl_X3_13 hP.1.1 rfl hP.2.2.2.1 dX3_tokenAt_14 ?_
    refine x_iload_n C dX3_tokenAt_17 1 rfl rfl ?_
    refine x_aaldN C hP.2.1.1 rfl (by omega) (by omega) (hP.2.2.2.2.2 m (by omega)).1 dX3_tokenAt_18 ?_
    refine x_iload_n C dX3_tokenAt_19 2 rfl rfl ?_
    refine x_ialdN C (hP.2.2.2.2.2 m (by omega)).2.1 (by omega) (by omega) dX3_tokenAt_20 ?_
    refine x_eqi (y := nI (tk m k)) (hI.2.2.1 m (by omega) k (by omega)) ?_
    refine x_goto (tgt := 25) C dX3_tokenAt_21 (by decide) ?_
    exact x_iret C E (Nat.le_of_ble_eq_true rfl) (Nat.le_of_ble_eq_true rfl) dX3_tokenAt_25 (⟨by unfold tkF; rw [if_pos hmk], rfl⟩)

set_option maxHeartbeats 4000000 in
set_option maxRecDepth 100000 in
theorem ok_X3_isKnownAhead {l : Launch} {a0 : Nat} {D : va_G} {sa : Nat → Nat} {T : Nat → Option hKd} {I : Nat → Nat → Int32} {L : Nat → Nat → Int64} {R : Nat → Nat → Option Nat} {A : Nat → Nat} (P : Nat) (hP : isPt T R A a0 P) (kn : Nat → Bool) (ms : Nat) (sz : Nat → Nat) (tk : Nat → Nat → Nat) (hs : Bool) (hI : ptI I P kn ms sz tk hs) (h : Nat) (hh : h < 2) : hM l a0 D sa yX3_isKnownAhead cX3_isKnownAhead 2 (some .boolean) { frames := 0, cells := 0, slots := 0, locals := 0 } [.ref (A P), .int (nI h)] (T, I, L, R, A) (fun r G' => r = some (.int (bI (kn h))) ∧ G' = (T, I, L, R, A)) := by
  refine hM.of (by decide +kernel) (Nat.le_of_ble_eq_true rfl) ?_
  intro z hl h0 hD hS hN C E
  subst hl; subst h0; subst hD; subst hS
  have C : hC z RX3 cX3_isKnownAhead := C
  have hZ := E.2.2.2.1
  show hX z 0 0 (T, I, L, R, A) [(0, .ref (A P)), (1, .int (nI h))] 0 []
  have hms := hI.2.2.2.1
  refine x_iload_n C dX3_isKnownAhead_0 1 rfl rfl ?_
  refine x_if_neN (tgt := 11) C (by omega) dX3_isKnownAhead_1 (by decide) (fun c1 => ?_) (fun c1 => ?_)
  · refine x_aload_n C dX3_isKnownAhead_11 0 rfl rfl ?_
    refine x_getiN C fl_X3_31 hP.1.1 rfl dX3_isKnownAhead_12 ?_
    refine x_eqi (y := bI (kn 1)) hI.1.2.1 ?_
    exact x_zret C E (bI_01 _) (Nat.le_of_ble_eq_true rfl) (Nat.le_of_ble_eq_true rfl) dX3_isKnownAhead_15 (⟨by rw [show h = 1 by omega], rfl⟩)
  · refine x_aload_n C dX3_isKnownAhead_4 0 rfl rfl ?_
    refine x_getiN C fl_X3_28 hP.1.1 rfl dX3_isKnownAhead_5 ?_
    refine x_eqi (y := bI (kn 0)) hI.1.1 ?_
    refine x_goto (tgt := 15) C dX3_isKnownAhead_8 (by decide) ?_
    exact x_zret C E (bI_01 _) (Nat.le_of_ble_eq_true rfl) (Nat.le_of_ble_eq_true rfl) dX3_isKnownAhead_15 (⟨by rw [c1], rfl⟩)

set_option maxHeartbeats 4000000 in
set_option maxRecDepth 100000 in
theorem ok_X3_sendsS {l : Launch} {a0 : Nat} {D : va_G} {sa : Nat → Nat} {T : Nat → Option hKd} {I : Nat → Nat → Int32} {L : Nat → Nat → Int64} {R : Nat → Nat → Option Nat} {A : Nat → Nat} (P : Nat) (hP : isPt T R A a0 P) (kn : Nat → Bool) (ms : Nat) (sz : Nat → Nat) (tk : Nat → Nat → Nat) (hs : Bool) (hI : ptI I P kn ms sz tk hs) (hd : Nat) (hh : hd < 2) : hM l a0 D sa yX3_sendsS cX3_sendsS 4 (some .boolean) { frames := 0, cells := 0, slots := 0, locals := 0 } [.ref (A P), .int (nI hd)] (T, I, L, R, A) (fun r G' => (∃ q : Bool, r = some (.int (bI q)) ∧ (q = true ↔ ∃ m k, m < ms ∧ m % 2 = hd ∧ k < sz m ∧ tk m k = 1)) ∧ G' = (T, I, L, R, A)) := by
  refine hM.of (by decide +kernel) (Nat.le_of_ble_eq_true rfl) ?_
  intro z hl h0 hD hS hN C E
  subst hl; subst h0; subst hD; subst hS
  have C : hC z RX3 cX3_sendsS := C
  have hZ := E.2.2.2.1
  show hX z 0 0 (T, I, L, R, A) [(0, .ref (A P)), (1, .int (nI hd))] 0 []
  have hms := hI.2.2.2.1
  refine x_iload_n C dX3_sendsS_0 1 rfl rfl ?_
  refine x_istore_n (lv' := [(2, .int (nI hd)), (0, .ref (A P)), (1, .int (nI hd))]) C dX3_sendsS_1 rfl (Nat.lt_of_lt_of_eq (by decide) hN.symm) rfl ?_
  have L2 : ∀ (fuel_ : Nat) (m : Nat), ms + 2 - m < fuel_ → (m ≤ ms + 1 ∧ m % 2 = hd) → (∀ p k, p < m → p % 2 = hd → k < sz p → tk p k ≠ 1) → hX z 0 0 (T, I, L, R, A) [(2, .int (nI m)), (0, .ref (A P)), (1, .int (nI hd))] 2 [] := by
    intro fuel_
    induction fuel_ with
    | zero => intro m hmz; exact absurd hmz (Nat.not_lt_zero _)
    | succ fuel_ ih2 =>
      intro m hmz hm hv
      refine x_iload_n C dX3_sendsS_2 0 rfl rfl ?_
      refine x_aload_n C dX3_sendsS_3 1 rfl rfl ?_
      refine x_getiN C fl_X3_20 hP.1.1 rfl dX3_sendsS_4 ?_
      refine x_eqi (y := nI ms) hI.1.2.2.1 ?_
      refine x_icmp_geN (tgt := 48) C (by first | omega | (have h1_ := hI.2.2.2.2.1 m; omega) | (have h1_ := hI.2.2.2.2.1 m; have h2_ := hI.2.2.2.2.2.1 m k; omega)  | (have h1_ := hI.2.2.2.2.1 m; have h2_ := hI.2.2.2.2.2.1 m j; omega)) (by first | omega | (have h1_ := hI.2.2.2.2.1 m; omega) | (have h1_ := hI.2.2.2.2.1 m; have h2_ := hI.2.2.2.2.2.1 m k; omega)  | (have h1_ := hI.2.2.2.2.1 m; have h2_ := hI.2.2.2.2.2.1 m j; omega)) dX3_sendsS_7 (by decide) (fun c7 => ?_) (fun c7 => ?_)
      · refine x_iconst (v := nI 0) C dX3_sendsS_48 (by decide +kernel) ?_
        exact x_zret C E (by first | exact Or.inl rfl | exact Or.inr rfl | assumption) (Nat.le_of_ble_eq_true rfl) (Nat.le_of_ble_eq_true rfl) dX3_sendsS_49 (⟨⟨false, rfl, by simp only [Bool.false_eq_true, false_iff]; rintro ⟨p, q, h1, h2, h3, h4⟩; exact hv p q (by omega) h2 h3 h4⟩, rfl⟩)
      · refine x_iconst (v := nI 0) C dX3_sendsS_10 (by decide +kernel) ?_
        refine x_istore_n (lv' := [(3, .int (nI 0)), (2, .int (nI m)), (0, .ref (A P)), (1, .int (nI hd))]) C dX3_sendsS_11 rfl (Nat.lt_of_lt_of_eq (by decide) hN.symm) rfl ?_
        have L12 : ∀ (fuel_ : Nat) (k : Nat), sz m - k < fuel_ → (k ≤ sz m) → (∀ j, j < k → tk m j ≠ 1) → hX z 0 0 (T, I, L, R, A) [(3, .int (nI k)), (2, .int (nI m)), (0, .ref (A P)), (1, .int (nI hd))] 12 [] := by
          intro fuel_
          induction fuel_ with
          | zero => intro k hmz; exact absurd hmz (Nat.not_lt_zero _)
          | succ fuel_ ih12 =>
            intro k hmz hk hw
            refine x_iload_n C dX3_sendsS_12 0 rfl rfl ?_
            refine x_aload_n C dX3_sendsS_13 2 rfl rfl ?_
            refine x_getrN C fl_X3_16 hP.1.1 rfl hP.2.2.2.2.1 dX3_sendsS_14 ?_
            refine x_iload_n C dX3_sendsS_17 1 rfl rfl ?_
            refine x_ialdN C hP.2.2.1.1 (by first | omega | (have h1_ := hI.2.2.2.2.1 m; omega) | (have h1_ := hI.2.2.2.2.1 m; have h2_ := hI.2.2.2.2.2.1 m k; omega)  | (have h1_ := hI.2.2.2.2.1 m; have h2_ := hI.2.2.2.2.2.1 m j; omega)) (by omega) dX3_sendsS_18 ?_
            refine x_eqi (y := nI (sz m)) (hI.2.1 m (by omega)) ?_
            refine x_icmp_geN (tgt := 42) C (by first | omega | (have h1_ := hI.2.2.2.2.1 m; omega) | (have h1_ := hI.2.2.2.2.1 m; have h2_ := hI.2.2.2.2.2.1 m k; omega)  | (have h1_ := hI.2.2.2.2.1 m; have h2_ := hI.2.2.2.2.2.1 m j; omega)) (by first | omega | (have h1_ := hI.2.2.2.2.1 m; omega) | (have h1_ := hI.2.2.2.2.1 m; have h2_ := hI.2.2.2.2.2.1 m k; omega)  | (have h1_ := hI.2.2.2.2.1 m; have h2_ := hI.2.2.2.2.2.1 m j; omega)) dX3_sendsS_19 (by decide) (fun c19 => ?_) (fun c19 => ?_)
            · refine x_iinc (v := nI (m + 2)) (lv' := [(2, .int (nI (m + 2))), (3, .int (nI k)), (0, .ref (A P)), (1, .int (nI hd))]) C dX3_sendsS_42 1 rfl (nI_inc 2) (Nat.lt_of_lt_of_eq (by decide) hN.symm) rfl ?_
              refine x_goto (tgt := 2) C dX3_sendsS_45 (by decide) ?_
              refine x_sub (lv' := _) [0, 2, 3] rfl ?_
              exact ih2 (m + 2) (by omega) (by omega) (fun p q h1 h2 h3 => by rcases Nat.lt_or_ge p m with g | g; exact hv p q g h2 h3; rw [show p = m by omega] at h3 ⊢; exact hw q (by omega))
            · have hm5 := hI.2.2.2.2.1 m
              refine x_aload_n C dX3_sendsS_22 2 rfl rfl ?_
              refine x_getrN C fl_X3_13 hP.1.1 rfl hP.2.2.2.1 dX3_sendsS_23 ?_
              refine x_iload_n C dX3_sendsS_26 1 rfl rfl ?_
              refine x_aaldN C hP.2.1.1 rfl (by first | omega | (have h1_ := hI.2.2.2.2.1 m; omega) | (have h1_ := hI.2.2.2.2.1 m; have h2_ := hI.2.2.2.2.2.1 m k; omega)  | (have h1_ := hI.2.2.2.2.1 m; have h2_ := hI.2.2.2.2.2.1 m j; omega)) (by omega) (hP.2.2.2.2.2 m (by omega)).1 dX3_sendsS_27 ?_
              refine x_iload_n C dX3_sendsS_28 0 rfl rfl ?_
              refine x_ialdN C (hP.2.2.2.2.2 m (by omega)).2.1 (by first | omega | (have h1_ := hI.2.2.2.2.1 m; omega) | (have h1_ := hI.2.2.2.2.1 m; have h2_ := hI.2.2.2.2.2.1 m k; omega)  | (have h1_ := hI.2.2.2.2.1 m; have h2_ := hI.2.2.2.2.2.1 m j; omega)) (by omega) dX3_sendsS_29 ?_
              refine x_eqi (y := nI (tk m k)) (hI.2.2.1 m (by omega) k (by omega)) ?_
              refine x_iconst (v := nI 1) C dX3_sendsS_30 (by decide +kernel) ?_
              refine x_icmp_neN (tgt := 36) C (by first | omega | (have h1_ := hI.2.2.2.2.1 m; omega) | (have h1_ := hI.2.2.2.2.1 m; have h2_ := hI.2.2.2.2.2.1 m k; omega)  | (have h1_ := hI.2.2.2.2.1 m; have h2_ := hI.2.2.2.2.2.1 m j; omega)) (by first | omega | (have h1_ := hI.2.2.2.2.1 m; omega) | (have h1_ := hI.2.2.2.2.1 m; have h2_ := hI.2.2.2.2.2.1 m k; omega)  | (have h1_ := hI.2.2.2.2.1 m; have h2_ := hI.2.2.2.2.2.1 m j; omega)) dX3_sendsS_31 (by decide) (fun c31 => ?_) (fun c31 => ?_)
              · refine x_iinc (v := nI (k + 1)) (lv' := [(3, .int (nI (k + 1))), (2, .int (nI m)), (0, .ref (A P)), (1, .int (nI hd))]) C dX3_sendsS_36 0 rfl (nI_inc 1) (Nat.lt_of_lt_of_eq (by decide) hN.symm) rfl ?_
                refine x_goto (tgt := 12) C dX3_sendsS_39 (by decide) ?_
                refine x_sub (lv' := _) [0, 1, 2, 3] rfl ?_
                exact ih12 (k + 1) (by omega) (by omega) (fun j hj => by rcases Nat.lt_or_ge j k with g | g; exact hw j g; rw [show j = k by omega]; exact c31)
              · refine x_iconst (v := nI 1) C dX3_sendsS_34 (by decide +kernel) ?_
                exact x_zret C E (by first | exact Or.inl rfl | exact Or.inr rfl | assumption) (Nat.le_of_ble_eq_true rfl) (Nat.le_of_ble_eq_true rfl) dX3_sendsS_35 (⟨⟨true, rfl, by simp only [true_iff]; exact ⟨m, k, by omega, hm.2, by omega, c31⟩⟩, rfl⟩)
        refine x_sub (lv' := _) [0, 1, 2, 3] rfl ?_
        exact L12 _ 0 (Nat.lt_succ_self _) (Nat.zero_le _) (fun j hj => absurd hj (Nat.not_lt_zero j))
  refine x_sub (lv' := _) [0, 1, 2] rfl ?_
  exact L2 _ hd (Nat.lt_succ_self _) (by omega) (fun p k h1 h2 => by omega)

def telF (kn : Nat → Bool) (ms : Nat) (sz : Nat → Nat) (tk : Nat → Nat → Nat) (w : Nat) : Int32 := if w = 0 then nI ms else if w = 1 then bI (kn 0) else if w = 2 then bI (kn 1) else if (w - 3) % 6 = 5 then szF ms sz ((w - 3) / 6) else tkF ms sz tk ((w - 3) / 6) ((w - 3) % 6)
set_option maxHeartbeats 4000000 in
set_option maxRecDepth 100000 in
theorem ok_X3_tell {l : Launch} {a0 : Nat} {D : va_G} {sa : Nat → Nat} {T : Nat → Option hKd} {I : Nat → Nat → Int32} {L : Nat → Nat → Int64} {R : Nat → Nat → Option Nat} {A : Nat → Nat} (P : Nat) (hP : isPt T R A a0 P) (kn : Nat → Bool) (ms : Nat) (sz : Nat → Nat) (tk : Nat → Nat → Nat) (hs : Bool) (hI : ptI I P kn ms sz tk hs) (w : Nat) (hw : w ≤ 38) : hM l a0 D sa yX3_tell cX3_tell 4 (some .int) { frames := 2, cells := 0, slots := 0, locals := 43 } [.ref (A P), .int (nI w)] (T, I, L, R, A) (fun r G' => r = some (.int (telF kn ms sz tk w)) ∧ G' = (T, I, L, R, A)) := by
  refine hM.of (by decide +kernel) (Nat.le_of_ble_eq_true rfl) ?_
  intro z hl h0 hD hS hN C E
  subst hl; subst h0; subst hD; subst hS
  have C : hC z RX3 cX3_tell := C
  have hZ := E.2.2.2.1
  show hX z 0 0 (T, I, L, R, A) [(0, .ref (A P)), (1, .int (nI w))] 0 []
  have hms := hI.2.2.2.1
  refine x_iload_n C dX3_tell_0 1 rfl rfl ?_
  by_cases s1_0 : nI w = nI 0
  · refine x_tableIn (off := 27) (tgt := 28) C dX3_tell_1 (by rw [s1_0]; decide +kernel) (by rw [s1_0]; decide +kernel) (by rw [s1_0]; decide +kernel) (by decide) ?_
    refine x_aload_n C dX3_tell_28 0 rfl rfl ?_
    refine x_getiN C fl_X3_20 hP.1.1 rfl dX3_tell_29 ?_
    refine x_eqi (y := nI ms) hI.1.2.2.1 ?_
    exact x_iret C E (Nat.le_of_ble_eq_true rfl) (Nat.le_of_ble_eq_true rfl) dX3_tell_32 (⟨by have e : w = 0 := (nI_eq (by omega) (by decide)).mp s1_0; subst e; rfl, rfl⟩)
  by_cases s1_1 : nI w = nI 1
  · refine x_tableIn (off := 32) (tgt := 33) C dX3_tell_1 (by rw [s1_1]; decide +kernel) (by rw [s1_1]; decide +kernel) (by rw [s1_1]; decide +kernel) (by decide) ?_
    refine x_aload_n C dX3_tell_33 0 rfl rfl ?_
    refine x_getiN C fl_X3_28 hP.1.1 rfl dX3_tell_34 ?_
    refine x_eqi (y := bI (kn 0)) hI.1.1 ?_
    refine x_if_eq (tgt := 44) C dX3_tell_37 (by decide) (fun c37 => ?_) (fun c37 => ?_)
    · refine x_iconst (v := nI 0) C dX3_tell_44 (by decide +kernel) ?_
      exact x_iret C E (Nat.le_of_ble_eq_true rfl) (Nat.le_of_ble_eq_true rfl) dX3_tell_45 (⟨by have e : w = 1 := (nI_eq (by omega) (by decide)).mp s1_1; subst e; show _ = some (Value.int (bI (kn 0))); rw [bI_F c37]; rfl, rfl⟩)
    · refine x_iconst (v := nI 1) C dX3_tell_40 (by decide +kernel) ?_
      refine x_goto (tgt := 45) C dX3_tell_41 (by decide) ?_
      exact x_iret C E (Nat.le_of_ble_eq_true rfl) (Nat.le_of_ble_eq_true rfl) dX3_tell_45 (⟨by have e : w = 1 := (nI_eq (by omega) (by decide)).mp s1_1; subst e; show _ = some (Value.int (bI (kn 0))); rw [bI_T c37]; rfl, rfl⟩)
  by_cases s1_2 : nI w = nI 2
  · refine x_tableIn (off := 45) (tgt := 46) C dX3_tell_1 (by rw [s1_2]; decide +kernel) (by rw [s1_2]; decide +kernel) (by rw [s1_2]; decide +kernel) (by decide) ?_
    refine x_aload_n C dX3_tell_46 0 rfl rfl ?_
    refine x_getiN C fl_X3_31 hP.1.1 rfl dX3_tell_47 ?_
    refine x_eqi (y := bI (kn 1)) hI.1.2.1 ?_
    refine x_if_eq (tgt := 57) C dX3_tell_50 (by decide) (fun c50 => ?_) (fun c50 => ?_)
    · refine x_iconst (v := nI 0) C dX3_tell_57 (by decide +kernel) ?_
      exact x_iret C E (Nat.le_of_ble_eq_true rfl) (Nat.le_of_ble_eq_true rfl) dX3_tell_58 (⟨by have e : w = 2 := (nI_eq (by omega) (by decide)).mp s1_2; subst e; show _ = some (Value.int (bI (kn 1))); rw [bI_F c50]; rfl, rfl⟩)
    · refine x_iconst (v := nI 1) C dX3_tell_53 (by decide +kernel) ?_
      refine x_goto (tgt := 58) C dX3_tell_54 (by decide) ?_
      exact x_iret C E (Nat.le_of_ble_eq_true rfl) (Nat.le_of_ble_eq_true rfl) dX3_tell_58 (⟨by have e : w = 2 := (nI_eq (by omega) (by decide)).mp s1_2; subst e; show _ = some (Value.int (bI (kn 1))); rw [bI_T c50]; rfl, rfl⟩)
  refine x_tableOut (tgt := 59) C dX3_tell_1 (sw_out2 s1_0 s1_1 s1_2) (by decide) ?_
  have w0 : ¬ w = 0 := fun e => s1_0 (by rw [e])
  have w1 : ¬ w = 1 := fun e => s1_1 (by rw [e])
  have w2 : ¬ w = 2 := fun e => s1_2 (by rw [e])
  refine x_iload_n C dX3_tell_59 1 rfl rfl ?_
  refine x_iconst (v := nI 3) C dX3_tell_60 (by decide +kernel) ?_
  refine x_isubN C (by omega) dX3_tell_61 ?_
  refine x_bipush (v := nI 6) C dX3_tell_62 (by decide +kernel) ?_
  refine x_idivN C (by omega) (by omega) (by omega) dX3_tell_64 ?_
  refine x_istore_n (lv' := [(2, .int (nI ((w - 3) / 6))), (0, .ref (A P)), (1, .int (nI w))]) C dX3_tell_65 rfl (Nat.lt_of_lt_of_eq (by decide) hN.symm) rfl ?_
  refine x_iload_n C dX3_tell_66 2 rfl rfl ?_
  refine x_iconst (v := nI 3) C dX3_tell_67 (by decide +kernel) ?_
  refine x_isubN C (by omega) dX3_tell_68 ?_
  refine x_bipush (v := nI 6) C dX3_tell_69 (by decide +kernel) ?_
  refine x_iremN C (by omega) (by omega) (by omega) dX3_tell_71 ?_
  refine x_istore_n (lv' := [(3, .int (nI ((w - 3) % 6))), (2, .int (nI ((w - 3) / 6))), (0, .ref (A P)), (1, .int (nI w))]) C dX3_tell_72 rfl (Nat.lt_of_lt_of_eq (by decide) hN.symm) rfl ?_
  refine x_iload_n C dX3_tell_73 0 rfl rfl ?_
  refine x_iconst (v := nI 5) C dX3_tell_74 (by decide +kernel) ?_
  refine x_icmp_neN (tgt := 86) C (by omega) (by omega) dX3_tell_75 (by decide) (fun c75 => ?_) (fun c75 => ?_)
  · refine x_aload_n C dX3_tell_86 2 rfl rfl ?_
    refine x_iload_n C dX3_tell_87 1 rfl rfl ?_
    refine x_iload_n C dX3_tell_88 0 rfl rfl ?_
    refine x_callV C (ok_X3_tokenAt P hP kn ms sz tk hs hI ((w - 3) / 6) ((w - 3) % 6) (by omega) (by omega)) mv_X3_tokenAt ml_X3_38 hP.1.1 rfl rfl rfl (Nat.le_of_ble_eq_true rfl) (hrm (rm := { frames := 0, cells := 0, slots := 0, locals := 0 }) hZ ⟨Nat.le_of_ble_eq_true rfl, Nat.le_of_ble_eq_true rfl⟩) (hcs hZ ⟨Nat.le_of_ble_eq_true rfl, Nat.le_of_ble_eq_true rfl⟩) dX3_tell_89 (fun v G' hp => ?_)
    obtain ⟨rfl, rfl⟩ := hp
    show hX z 0 0 (T, I, L, R, A) [(3, .int (nI ((w - 3) % 6))), (2, .int (nI ((w - 3) / 6))), (0, .ref (A P)), (1, .int (nI w))] 92 [.int (tkF ms sz tk ((w - 3) / 6) ((w - 3) % 6))]
    exact x_iret C E (Nat.le_of_ble_eq_true rfl) (Nat.le_of_ble_eq_true rfl) dX3_tell_92 (⟨by unfold telF; rw [if_neg w0, if_neg w1, if_neg w2, if_neg c75], rfl⟩)
  · refine x_aload_n C dX3_tell_78 2 rfl rfl ?_
    refine x_iload_n C dX3_tell_79 1 rfl rfl ?_
    refine x_callV C (ok_X3_sizeOf P hP kn ms sz tk hs hI ((w - 3) / 6) (by omega)) mv_X3_sizeOf ml_X3_34 hP.1.1 rfl rfl rfl (Nat.le_of_ble_eq_true rfl) (hrm (rm := { frames := 0, cells := 0, slots := 0, locals := 0 }) hZ ⟨Nat.le_of_ble_eq_true rfl, Nat.le_of_ble_eq_true rfl⟩) (hcs hZ ⟨Nat.le_of_ble_eq_true rfl, Nat.le_of_ble_eq_true rfl⟩) dX3_tell_80 (fun v G' hp => ?_)
    obtain ⟨rfl, rfl⟩ := hp
    show hX z 0 0 (T, I, L, R, A) [(3, .int (nI ((w - 3) % 6))), (2, .int (nI ((w - 3) / 6))), (0, .ref (A P)), (1, .int (nI w))] 83 [.int (szF ms sz ((w - 3) / 6))]
    refine x_goto (tgt := 92) C dX3_tell_83 (by decide) ?_
    exact x_iret C E (Nat.le_of_ble_eq_true rfl) (Nat.le_of_ble_eq_true rfl) dX3_tell_92 (⟨by unfold telF; rw [if_neg w0, if_neg w1, if_neg w2, if_pos c75], rfl⟩)

set_option maxHeartbeats 4000000 in
set_option maxRecDepth 100000 in
theorem ok_X3_hasEmptyMessage {l : Launch} {a0 : Nat} {D : va_G} {sa : Nat → Nat} {T : Nat → Option hKd} {I : Nat → Nat → Int32} {L : Nat → Nat → Int64} {R : Nat → Nat → Option Nat} {A : Nat → Nat} (P : Nat) (hP : isPt T R A a0 P) (kn : Nat → Bool) (ms : Nat) (sz : Nat → Nat) (tk : Nat → Nat → Nat) (hs : Bool) (hI : ptI I P kn ms sz tk hs)  : hM l a0 D sa yX3_hasEmptyMessage cX3_hasEmptyMessage 2 (some .boolean) { frames := 0, cells := 0, slots := 0, locals := 0 } [.ref (A P)] (T, I, L, R, A) (fun r G' => (∃ q : Bool, r = some (.int (bI q)) ∧ (q = true ↔ ms = 0 ∨ ∃ m, m < ms ∧ sz m = 0)) ∧ G' = (T, I, L, R, A)) := by
  refine hM.of (by decide +kernel) (Nat.le_of_ble_eq_true rfl) ?_
  intro z hl h0 hD hS hN C E
  subst hl; subst h0; subst hD; subst hS
  have C : hC z RX3 cX3_hasEmptyMessage := C
  have hZ := E.2.2.2.1
  show hX z 0 0 (T, I, L, R, A) [(0, .ref (A P))] 0 []
  have hms := hI.2.2.2.1
  refine x_iconst (v := nI 0) C dX3_hasEmptyMessage_0 (by decide +kernel) ?_
  refine x_istore_n (lv' := [(1, .int (nI 0)), (0, .ref (A P))]) C dX3_hasEmptyMessage_1 rfl (Nat.lt_of_lt_of_eq (by decide) hN.symm) rfl ?_
  have L2 : ∀ (fuel_ : Nat) (m : Nat), ms - m < fuel_ → (m ≤ ms) → (∀ p, p < m → sz p ≠ 0) → hX z 0 0 (T, I, L, R, A) [(1, .int (nI m)), (0, .ref (A P))] 2 [] := by
    intro fuel_
    induction fuel_ with
    | zero => intro m hmz; exact absurd hmz (Nat.not_lt_zero _)
    | succ fuel_ ih2 =>
      intro m hmz hm hv
      refine x_iload_n C dX3_hasEmptyMessage_2 0 rfl rfl ?_
      refine x_aload_n C dX3_hasEmptyMessage_3 1 rfl rfl ?_
      refine x_getiN C fl_X3_20 hP.1.1 rfl dX3_hasEmptyMessage_4 ?_
      refine x_eqi (y := nI ms) hI.1.2.2.1 ?_
      refine x_icmp_geN (tgt := 27) C (by first | omega | (have h1_ := hI.2.2.2.2.1 m; omega) | (have h1_ := hI.2.2.2.2.1 m; have h2_ := hI.2.2.2.2.2.1 m k; omega)  | (have h1_ := hI.2.2.2.2.1 m; have h2_ := hI.2.2.2.2.2.1 m j; omega)) (by first | omega | (have h1_ := hI.2.2.2.2.1 m; omega) | (have h1_ := hI.2.2.2.2.1 m; have h2_ := hI.2.2.2.2.2.1 m k; omega)  | (have h1_ := hI.2.2.2.2.1 m; have h2_ := hI.2.2.2.2.2.1 m j; omega)) dX3_hasEmptyMessage_7 (by decide) (fun c7 => ?_) (fun c7 => ?_)
      · refine x_aload_n C dX3_hasEmptyMessage_27 1 rfl rfl ?_
        refine x_getiN C fl_X3_20 hP.1.1 rfl dX3_hasEmptyMessage_28 ?_
        refine x_eqi (y := nI ms) hI.1.2.2.1 ?_
        refine x_if_neN (tgt := 38) C (by first | omega | (have h1_ := hI.2.2.2.2.1 m; omega) | (have h1_ := hI.2.2.2.2.1 m; have h2_ := hI.2.2.2.2.2.1 m k; omega)  | (have h1_ := hI.2.2.2.2.1 m; have h2_ := hI.2.2.2.2.2.1 m j; omega)) dX3_hasEmptyMessage_31 (by decide) (fun c31 => ?_) (fun c31 => ?_)
        · refine x_iconst (v := nI 0) C dX3_hasEmptyMessage_38 (by decide +kernel) ?_
          exact x_zret C E (by first | exact Or.inl rfl | exact Or.inr rfl | assumption) (Nat.le_of_ble_eq_true rfl) (Nat.le_of_ble_eq_true rfl) dX3_hasEmptyMessage_39 (⟨⟨false, rfl, by simp only [Bool.false_eq_true, false_iff]; rintro (h | ⟨p, h1, h2⟩); exact c31 h; exact hv p (by omega) h2⟩, rfl⟩)
        · refine x_iconst (v := nI 1) C dX3_hasEmptyMessage_34 (by decide +kernel) ?_
          refine x_goto (tgt := 39) C dX3_hasEmptyMessage_35 (by decide) ?_
          exact x_zret C E (by first | exact Or.inl rfl | exact Or.inr rfl | assumption) (Nat.le_of_ble_eq_true rfl) (Nat.le_of_ble_eq_true rfl) dX3_hasEmptyMessage_39 (⟨⟨true, rfl, by simp only [true_iff]; exact Or.inl c31⟩, rfl⟩)
      · refine x_aload_n C dX3_hasEmptyMessage_10 1 rfl rfl ?_
        refine x_getrN C fl_X3_16 hP.1.1 rfl hP.2.2.2.2.1 dX3_hasEmptyMessage_11 ?_
        refine x_iload_n C dX3_hasEmptyMessage_14 0 rfl rfl ?_
        refine x_ialdN C hP.2.2.1.1 (by first | omega | (have h1_ := hI.2.2.2.2.1 m; omega) | (have h1_ := hI.2.2.2.2.1 m; have h2_ := hI.2.2.2.2.2.1 m k; omega)  | (have h1_ := hI.2.2.2.2.1 m; have h2_ := hI.2.2.2.2.2.1 m j; omega)) (by omega) dX3_hasEmptyMessage_15 ?_
        refine x_eqi (y := nI (sz m)) (hI.2.1 m (by omega)) ?_
        refine x_if_neN (tgt := 21) C (by first | omega | (have h1_ := hI.2.2.2.2.1 m; omega) | (have h1_ := hI.2.2.2.2.1 m; have h2_ := hI.2.2.2.2.2.1 m k; omega)  | (have h1_ := hI.2.2.2.2.1 m; have h2_ := hI.2.2.2.2.2.1 m j; omega)) dX3_hasEmptyMessage_16 (by decide) (fun c16 => ?_) (fun c16 => ?_)
        · refine x_iinc (v := nI (m + 1)) (lv' := [(1, .int (nI (m + 1))), (0, .ref (A P))]) C dX3_hasEmptyMessage_21 0 rfl (nI_inc 1) (Nat.lt_of_lt_of_eq (by decide) hN.symm) rfl ?_
          refine x_goto (tgt := 2) C dX3_hasEmptyMessage_24 (by decide) ?_
          refine x_sub (lv' := _) [0, 1] rfl ?_
          exact ih2 (m + 1) (by omega) (by omega) (fun p hp => by rcases Nat.lt_or_ge p m with g | g; exact hv p g; rw [show p = m by omega]; exact c16)
        · refine x_iconst (v := nI 1) C dX3_hasEmptyMessage_19 (by decide +kernel) ?_
          exact x_zret C E (by first | exact Or.inl rfl | exact Or.inr rfl | assumption) (Nat.le_of_ble_eq_true rfl) (Nat.le_of_ble_eq_true rfl) dX3_hasEmptyMessage_20 (⟨⟨true, rfl, by simp only [true_iff]; exact Or.inr ⟨m, by omega, c16⟩⟩, rfl⟩)
  refine x_sub (lv' := _) [0, 1] rfl ?_
  exact L2 _ 0 (Nat.lt_succ_self _) (by omega) (fun p hp => absurd hp (Nat.not_lt_zero p))

