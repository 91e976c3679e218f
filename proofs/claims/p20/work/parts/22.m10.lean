/-- the class' cells that its constructor makes, by number -/
def xKL : List (Option hKd) := [some (.inr 10), some (.inl ((.object "StepShake$Pattern"), 8)), some (.inl ((.object "StepShake$Side"), 4)), some (.inr 4), some (.inl (.int, 64)), some (.inr 4), some (.inl (.int, 160)), some (.inr 4), some (.inl (.int, 160)), some (.inr 9), none, some (.inr 5), some (.inl (.int, 8)), some (.inl (.int, 64)), some (.inr 2), some (.inr 5), some (.inl (.int, 8)), some (.inl (.int, 64)), some (.inl (.int, 32)), some (.inl (.int, 32)), some (.inl (.int, 33)), some (.inr 1), some (.inl (.int, 32)), some (.inl (.long, 10)), some (.inl (.long, 10)), some (.inl (.long, 10)), some (.inl (.long, 10)), some (.inl (.long, 10)), some (.inl (.long, 10)), some (.inl (.long, 10)), some (.inl (.long, 10)), some (.inl (.long, 10)), some (.inr 0), some (.inl (.int, 16)), some (.inl (.int, 16)), some (.inl (.int, 16)), some (.inl (.int, 32)), some (.inr 8), some (.inl (.long, 5)), some (.inl (.long, 5)), some (.inl (.long, 5)), some (.inl (.int, 17)), some (.inl (.int, 16)), some (.inr 7), some (.inl (.int, 32)), some (.inl (.int, 32)), some (.inl (.int, 32)), some (.inl (.int, 32)), some (.inl (.int, 32)), some (.inl (.int, 32)), some (.inl (.int, 32)), some (.inl (.int, 32)), some (.inl (.int, 32)), some (.inr 4), some (.inl (.int, 32)), some (.inl (.int, 32))]
def xK (k : Nat) : Option hKd := if k < 100 then none else xKL.getD (k - 100) none
def xRL : List ((Nat × Nat) × Nat) := [((100, 0), 101), ((100, 1), 102), ((100, 2), 103), ((100, 3), 105), ((100, 4), 107), ((100, 5), 109), ((100, 6), 155), ((103, 0), 104), ((105, 0), 106), ((107, 0), 108), ((109, 0), 111), ((109, 1), 114), ((109, 2), 121), ((109, 3), 132), ((109, 4), 143), ((109, 5), 151), ((109, 6), 152), ((109, 7), 153), ((111, 0), 112), ((111, 1), 113), ((114, 0), 115), ((115, 0), 116), ((115, 1), 117), ((114, 1), 118), ((114, 2), 119), ((114, 3), 120), ((121, 0), 122), ((121, 1), 123), ((121, 6), 128), ((121, 7), 129), ((121, 8), 130), ((121, 9), 131), ((132, 0), 133), ((132, 1), 134), ((132, 2), 135), ((132, 3), 136), ((132, 4), 137), ((137, 0), 138), ((137, 1), 139), ((137, 2), 140), ((137, 3), 141), ((137, 4), 142), ((153, 0), 154), ((143, 0), 144), ((143, 1), 145), ((143, 2), 146), ((143, 3), 147), ((143, 4), 148), ((143, 5), 149), ((143, 6), 150)]
def xRf (q k : Nat) : Option Nat := xRL.lookup (q, k)
def xSt (k : Nat) : Option Nat := match k with
  | 90 => some 6 | 91 => some 8 | 92 => some 64 | 93 => some 32 | 94 => some 0 | _ => none
def isX (T : Nat → Option hKd) (R : Nat → Nat → Option Nat) (A : Nat → Nat) (a0 : Nat) : Prop := (∀ k t, xK k = some t → T k = some t ∧ a0 ≤ A k) ∧ (∀ q k r, xRf q k = some r → R q k = some r) ∧ ∀ k n, xSt k = some n → T k = some (.inl (.int, n))
/-- what the static arrays hold -/
def stI (I : Nat → Nat → Int32) : Prop := (∀ t, t < 8 → I 91 t = fSha t) ∧ (∀ t, t < 64 → I 92 t = kSha t) ∧ (∀ t, t < 32 → I 93 t = if t = 0 then nI 9 else nI 0) ∧ ∀ t, t < 6 → I 90 t = ([0, 0, 3, 9, 6, 12] : List Int32).getD t 0
def fx (S : List Nat) (I J : Nat → Nat → Int32) : Prop := ∀ q, q ∉ S → J q = I q
theorem fx.rf {S : List Nat} {I : Nat → Nat → Int32} : fx S I I := fun _ _ => rfl
theorem fx.tr {S U : List Nat} {I J K : Nat → Nat → Int32} (h : fx S I J) (k : fx U J K) (hs : ∀ q, q ∈ U → q ∈ S) : fx S I K := fun p h1 => (k p (fun e => h1 (hs p e))).trans (h p h1)
theorem fx.wk {S U : List Nat} {I J : Nat → Nat → Int32} (h : fx S I J) (hs : ∀ q, q ∈ S → q ∈ U) : fx U I J := fun p h1 => h p (fun e => h1 (hs p e))
theorem fx.up {S : List Nat} {I J : Nat → Nat → Int32} {q : Nat} {f : Nat → Int32} (h : fx S I J) (hq : q ∈ S) : fx S I (va_up J q f) := fun p h1 => by rw [up_ne _ _ (fun e : p = q => h1 (by rw [e]; exact hq))]; exact h p h1
theorem fx.st {S : List Nat} {I J : Nat → Nat → Int32} (h : fx S I J) (hs : ∀ k, k < 5 → 90 + k ∉ S) (hi : stI I) : stI J := by
  unfold stI
  rw [h 90 (hs 0 (by decide)), h 91 (hs 1 (by decide)), h 92 (hs 2 (by decide)), h 93 (hs 3 (by decide))]
  exact hi
theorem fx.of3 {a b c : Nat} {I J : Nat → Nat → Int32} (h : ∀ q, q ≠ a → q ≠ b → q ≠ c → J q = I q) : fx [a, b, c] I J := fun q hq => by simp at hq; exact h q hq.1 hq.2.1 hq.2.2
theorem fx.of4 {a b c d : Nat} {I J : Nat → Nat → Int32} (h : ∀ q, q ≠ a → q ≠ b → q ≠ c → q ≠ d → J q = I q) : fx [a, b, c, d] I J := fun q hq => by simp at hq; exact h q hq.1 hq.2.1 hq.2.2.1 hq.2.2.2
theorem cpk0 {α : Type} (f g : Nat → α) (n : Nat) : (fun j => if 0 ≤ j ∧ j < 0 + n then f (0 + (j - 0)) else g j) = fun j => if j < n then f j else g j := by
  funext j; simp
theorem hmI_hi (key : Nat → Int32) (p : Nat) {i : Nat} (h : ¬ i < 32) : hmI key p i = nI p := by
  unfold hmI; rw [if_neg h, nI_0]; simp
set_option maxHeartbeats 4000000 in
set_option maxRecDepth 100000 in
theorem ok_X10_copyKey {l : Launch} {a0 : Nat} {D : va_G} {sa : Nat → Nat} {T : Nat → Option hKd} {I : Nat → Nat → Int32} {L : Nat → Nat → Int64} {R : Nat → Nat → Option Nat} {A : Nat → Nat} (a b na nb : Nat) (hTa : T a = some (.inl (.int, na))) (hTb : T b = some (.inl (.int, nb))) (hb0 : a0 ≤ A b) (hna : na < 2 ^ 31) (hnb : nb < 2 ^ 31) (h1 : 32 ≤ na) (h2 : 32 ≤ nb) : hM l a0 D sa yX10_copyKey cX10_copyKey 2 none { frames := 1, cells := 0, slots := 0, locals := 40 } [.ref (A a), .ref (A b)] (T, I, L, R, A) (fun r G' => r = none ∧ G' = (T, va_up I b (fun j => if j < 32 then I a j else I b j), L, R, A)) := by
  refine hM.of (by decide +kernel) (Nat.le_of_ble_eq_true rfl) ?_
  intro z hl h0 hD hS hN C E
  subst hl; subst h0; subst hD; subst hS
  have C : hC z RX10 cX10_copyKey := C
  have hZ := E.2.2.2.1
  show hX z 0 0 (T, I, L, R, A) [(0, .ref (A a)), (1, .ref (A b))] 0 []
  refine x_aload_n C dX10_copyKey_0 0 rfl rfl ?_
  refine x_iconst (v := nI 0) C dX10_copyKey_1 (by decide +kernel) ?_
  refine x_aload_n C dX10_copyKey_2 1 rfl rfl ?_
  refine x_iconst (v := nI 0) C dX10_copyKey_3 (by decide +kernel) ?_
  refine x_bipush (v := nI 32) C dX10_copyKey_4 (by decide +kernel) ?_
  refine x_copyi C hTa hTb hb0 (by omega) (by omega) (by omega) (by omega) ml_X10_178 (hrm (rm := { frames := 0, cells := 0, slots := 0, locals := 0 }) hZ ⟨Nat.le_of_ble_eq_true rfl, by decide +kernel⟩) dX10_copyKey_6 (fun I1 eI1 => ?_)
  exact x_vret C E (Nat.le_of_ble_eq_true rfl) (Nat.le_of_ble_eq_true rfl) dX10_copyKey_9 (⟨rfl, by rw [eI1, cpk0]⟩)

set_option maxHeartbeats 4000000 in
set_option maxRecDepth 100000 in
theorem ok_X2_beginWith {l : Launch} {a0 : Nat} {D : va_G} {sa : Nat → Nat} {T : Nat → Option hKd} {I : Nat → Nat → Int32} {L : Nat → Nat → Int64} {R : Nat → Nat → Option Nat} {A : Nat → Nat} (xO : isX T R A a0) (hsa : ∀ k, k < 5 → sa k = A (90 + k)) (b nb p : Nat) (m : Nat → Int32) (hst : stI I) (hTb : T b = some (.inl (.int, nb))) (hnb : nb < 2 ^ 31) (hnb2 : 32 ≤ nb) (hb : b ≠ 115 ∧ b ≠ 116 ∧ b ≠ 117) (hm : ∀ i, i < 64 → m i = hmI (I b) p i) : hM l a0 D sa yX2_beginWith cX2_beginWith 4 none { frames := 2, cells := 0, slots := 0, locals := 60 } [.ref (A 114), .ref (A b), .int (nI p)] (T, I, L, R, A) (fun r G' => r = none ∧ ∃ I', G' = (T, I', L, R, A) ∧ shaAt I' 115 116 117 m 64 ∧ fx [115, 116, 117] I I') := by
  refine hM.of (by decide +kernel) (Nat.le_of_ble_eq_true rfl) ?_
  intro z hl h0 hD hS hN C E
  subst hl; subst h0; subst hD; subst hS
  have C : hC z RX2 cX2_beginWith := C
  have hZ := E.2.2.2.1
  show hX z 0 0 (T, I, L, R, A) [(0, .ref (A 114)), (1, .ref (A b)), (2, .int (nI p))] 0 []
  refine x_aload_n C dX2_beginWith_0 0 rfl rfl ?_
  refine x_getrN C fl_X2_12 (xO.1 114 _ rfl).1 rfl (xO.2.1 114 0 _ rfl) dX2_beginWith_1 ?_
  refine x_callV C (ok_X5_begin 115 116 117 (xO.1 115 _ rfl).1 (xO.2.1 115 0 _ rfl) (xO.2.1 115 1 _ rfl) (xO.1 116 _ rfl).1 (xO.1 117 _ rfl).1 (xO.1 115 _ rfl).2 (xO.1 116 _ rfl).2 (xO.1 117 _ rfl).2 (by decide) (by decide) (by decide) m hsa (xO.2.2 91 _ rfl) hst.1) mv_X5_begin ml_X2_48 (xO.1 115 _ rfl).1 rfl rfl rfl (Nat.le_of_ble_eq_true rfl) (hrm (rm := { frames := 0, cells := 0, slots := 0, locals := 0 }) hZ ⟨Nat.le_of_ble_eq_true rfl, Nat.le_of_ble_eq_true rfl⟩) (hcs hZ ⟨Nat.le_of_ble_eq_true rfl, Nat.le_of_ble_eq_true rfl⟩) dX2_beginWith_4 (fun v G' hp => ?_)
  obtain ⟨rfl, J0, rfl, hJ0, fJ0⟩ := hp
  show hX z 0 0 (T, J0, L, R, A) [(0, .ref (A 114)), (1, .ref (A b)), (2, .int (nI p))] 7 []
  refine x_iconst (v := nI 0) C dX2_beginWith_7 (by decide +kernel) ?_
  refine x_istore_n (lv' := [(3, .int (nI 0)), (0, .ref (A 114)), (1, .ref (A b)), (2, .int (nI p))]) C dX2_beginWith_8 rfl (Nat.lt_of_lt_of_eq (by decide) hN.symm) rfl ?_
  have L9 : ∀ (fuel_ : Nat) (i : Nat) (J : Nat → Nat → Int32), 64 - i < fuel_ → (i ≤ 64) → (shaAt J 115 116 117 m i) → (∀ q, q ≠ 115 → q ≠ 116 → q ≠ 117 → J q = I q) → hX z 0 0 (T, J, L, R, A) [(3, .int (nI i)), (0, .ref (A 114)), (1, .ref (A b)), (2, .int (nI p))] 9 [] := by
    intro fuel_
    induction fuel_ with
    | zero => intro i J hmz; exact absurd hmz (Nat.not_lt_zero _)
    | succ fuel_ ih9 =>
      intro i J hmz hi hJ fJ
      refine x_iload_n C dX2_beginWith_9 0 rfl rfl ?_
      refine x_bipush (v := nI 64) C dX2_beginWith_10 (by decide +kernel) ?_
      refine x_icmp_geN (tgt := 43) C (by omega) (by omega) dX2_beginWith_12 (by decide) (fun c12 => ?_) (fun c12 => ?_)
      · exact x_vret C E (Nat.le_of_ble_eq_true rfl) (Nat.le_of_ble_eq_true rfl) dX2_beginWith_43 (⟨rfl, J, rfl, by rw [show (64 : Nat) = i by omega]; exact hJ, fun q hq => by simp at hq; exact fJ q hq.1 hq.2.1 hq.2.2⟩)
      · refine x_aload_n C dX2_beginWith_15 1 rfl rfl ?_
        refine x_getrN C fl_X2_12 (xO.1 114 _ rfl).1 rfl (xO.2.1 114 0 _ rfl) dX2_beginWith_16 ?_
        refine x_iload_n C dX2_beginWith_19 0 rfl rfl ?_
        refine x_bipush (v := nI 32) C dX2_beginWith_20 (by decide +kernel) ?_
        refine x_icmp_geN (tgt := 33) C (by omega) (by omega) dX2_beginWith_22 (by decide) (fun c22 => ?_) (fun c22 => ?_)
        · refine x_iload_n C dX2_beginWith_33 3 rfl rfl ?_
          refine x_callV C (ok_X5_addByte 115 116 117 (xO.1 115 _ rfl).1 (xO.2.1 115 0 _ rfl) (xO.2.1 115 1 _ rfl) (xO.1 116 _ rfl).1 (xO.1 117 _ rfl).1 (xO.1 115 _ rfl).2 (xO.1 116 _ rfl).2 (xO.1 117 _ rfl).2 (by decide) (by decide) (by decide) hsa (xO.2.2 92 _ rfl) (fun t ht => by rw [fJ 92 (by decide) (by decide) (by decide)]; exact hst.2.1 t ht) ⟨by decide, by decide, by decide⟩ m i _ hJ (by rw [hm i (by omega), hmI_hi _ _ (by omega)])) mv_X5_addByte ml_X2_51 (xO.1 115 _ rfl).1 rfl rfl rfl (Nat.le_of_ble_eq_true rfl) (hrm (rm := { frames := 0, cells := 0, slots := 0, locals := 0 }) hZ ⟨Nat.le_of_ble_eq_true rfl, Nat.le_of_ble_eq_true rfl⟩) (hcs hZ ⟨Nat.le_of_ble_eq_true rfl, Nat.le_of_ble_eq_true rfl⟩) dX2_beginWith_34 (fun v G' hp => ?_)
          obtain ⟨rfl, K1, rfl, hK1, fK1⟩ := hp
          show hX z 0 0 (T, K1, L, R, A) [(3, .int (nI i)), (0, .ref (A 114)), (1, .ref (A b)), (2, .int (nI p))] 37 []
          refine x_iinc (v := nI (i + 1)) (lv' := [(3, .int (nI (i + 1))), (0, .ref (A 114)), (1, .ref (A b)), (2, .int (nI p))]) C dX2_beginWith_37 0 rfl (nI_inc 1) (Nat.lt_of_lt_of_eq (by decide) hN.symm) rfl ?_
          refine x_goto (tgt := 9) C dX2_beginWith_40 (by decide) ?_
          refine x_sub (lv' := _) [0, 1, 2, 3] rfl ?_
          exact ih9 (i + 1) K1 (by omega) (by omega) hK1 (fun q q1 q2 q3 => (fK1 q q1 q2 q3).trans (fJ q q1 q2 q3))
        · refine x_aload_n C dX2_beginWith_25 2 rfl rfl ?_
          refine x_iload_n C dX2_beginWith_26 0 rfl rfl ?_
          refine x_ialdN C hTb (by omega) (by omega) dX2_beginWith_27 ?_
          refine x_iload_n C dX2_beginWith_28 3 rfl rfl ?_
          refine x_ixor C dX2_beginWith_29 ?_
          refine x_goto (tgt := 34) C dX2_beginWith_30 (by decide) ?_
          refine x_callV C (ok_X5_addByte 115 116 117 (xO.1 115 _ rfl).1 (xO.2.1 115 0 _ rfl) (xO.2.1 115 1 _ rfl) (xO.1 116 _ rfl).1 (xO.1 117 _ rfl).1 (xO.1 115 _ rfl).2 (xO.1 116 _ rfl).2 (xO.1 117 _ rfl).2 (by decide) (by decide) (by decide) hsa (xO.2.2 92 _ rfl) (fun t ht => by rw [fJ 92 (by decide) (by decide) (by decide)]; exact hst.2.1 t ht) ⟨by decide, by decide, by decide⟩ m i _ hJ (by rw [hm i (by omega), fJ b hb.1 hb.2.1 hb.2.2]; unfold hmI; rw [if_pos (by omega)])) mv_X5_addByte ml_X2_51 (xO.1 115 _ rfl).1 rfl rfl rfl (Nat.le_of_ble_eq_true rfl) (hrm (rm := { frames := 0, cells := 0, slots := 0, locals := 0 }) hZ ⟨Nat.le_of_ble_eq_true rfl, Nat.le_of_ble_eq_true rfl⟩) (hcs hZ ⟨Nat.le_of_ble_eq_true rfl, Nat.le_of_ble_eq_true rfl⟩) dX2_beginWith_34 (fun v G' hp => ?_)
          obtain ⟨rfl, K2, rfl, hK2, fK2⟩ := hp
          show hX z 0 0 (T, K2, L, R, A) [(3, .int (nI i)), (0, .ref (A 114)), (1, .ref (A b)), (2, .int (nI p))] 37 []
          refine x_iinc (v := nI (i + 1)) (lv' := [(3, .int (nI (i + 1))), (0, .ref (A 114)), (1, .ref (A b)), (2, .int (nI p))]) C dX2_beginWith_37 0 rfl (nI_inc 1) (Nat.lt_of_lt_of_eq (by decide) hN.symm) rfl ?_
          refine x_goto (tgt := 9) C dX2_beginWith_40 (by decide) ?_
          refine x_sub (lv' := _) [0, 1, 2, 3] rfl ?_
          exact ih9 (i + 1) K2 (by omega) (by omega) hK2 (fun q q1 q2 q3 => (fK2 q q1 q2 q3).trans (fJ q q1 q2 q3))
  refine x_sub (lv' := _) [0, 1, 2, 3] rfl ?_
  exact L9 _ 0 J0 (Nat.lt_succ_self _) (by omega) hJ0 fJ0

