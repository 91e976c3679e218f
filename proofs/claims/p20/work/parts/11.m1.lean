set_option maxHeartbeats 4000000 in
set_option maxRecDepth 100000 in
theorem ok_X11_in {l : Launch} {a0 : Nat} {D : va_G} {sa : Nat → Nat} {T : Nat → Option hKd} {I : Nat → Nat → Int32} {L : Nat → Nat → Int64} {R : Nat → Nat → Option Nat} {A : Nat → Nat} (v lo hi : Int32) : hM l a0 D sa yX11_in cX11_in 3 (some .boolean) { frames := 0, cells := 0, slots := 0, locals := 0 } [.int v, .int lo, .int hi] (T, I, L, R, A) (fun r G' => r = some (.int (bI (decide (lo ≤ v ∧ v ≤ hi)))) ∧ G' = (T, I, L, R, A)) := by
  refine hM.of (by decide +kernel) (Nat.le_of_ble_eq_true rfl) ?_
  intro z hl h0 hD hS hN C E
  subst hl; subst h0; subst hD; subst hS
  have C : hC z RX11 cX11_in := C
  have hZ := E.2.2.2.1
  show hX z 0 0 (T, I, L, R, A) [(0, .int v), (1, .int lo), (2, .int hi)] 0 []
  refine x_iload_n C dX11_in_0 0 rfl rfl ?_
  refine x_iload_n C dX11_in_1 1 rfl rfl ?_
  refine x_icmp_lt (tgt := 14) C dX11_in_2 (by decide) (fun c2 => ?_) (fun c2 => ?_)
  · refine x_iconst (v := nI 0) C dX11_in_14 (by decide +kernel) ?_
    exact x_zret C E (by first | exact Or.inl rfl | exact Or.inr rfl | assumption) (Nat.le_of_ble_eq_true rfl) (Nat.le_of_ble_eq_true rfl) dX11_in_15 (⟨by first | (rw [decide_eq_false (fun h => Int32.not_le.mpr c2 h.1)]; rfl) | (rw [decide_eq_false (fun h => Int32.not_le.mpr c7 h.2)]; rfl) | (rw [decide_eq_true ⟨Int32.not_lt.mp c2, Int32.not_lt.mp c7⟩]; rfl), rfl⟩)
  · refine x_iload_n C dX11_in_5 0 rfl rfl ?_
    refine x_iload_n C dX11_in_6 2 rfl rfl ?_
    refine x_icmp_gt (tgt := 14) C dX11_in_7 (by decide) (fun c7 => ?_) (fun c7 => ?_)
    · refine x_iconst (v := nI 0) C dX11_in_14 (by decide +kernel) ?_
      exact x_zret C E (by first | exact Or.inl rfl | exact Or.inr rfl | assumption) (Nat.le_of_ble_eq_true rfl) (Nat.le_of_ble_eq_true rfl) dX11_in_15 (⟨by first | (rw [decide_eq_false (fun h => Int32.not_le.mpr c2 h.1)]; rfl) | (rw [decide_eq_false (fun h => Int32.not_le.mpr c7 h.2)]; rfl) | (rw [decide_eq_true ⟨Int32.not_lt.mp c2, Int32.not_lt.mp c7⟩]; rfl), rfl⟩)
    · refine x_iconst (v := nI 1) C dX11_in_10 (by decide +kernel) ?_
      refine x_goto (tgt := 15) C dX11_in_11 (by decide) ?_
      exact x_zret C E (by first | exact Or.inl rfl | exact Or.inr rfl | assumption) (Nat.le_of_ble_eq_true rfl) (Nat.le_of_ble_eq_true rfl) dX11_in_15 (⟨by first | (rw [decide_eq_false (fun h => Int32.not_le.mpr c2 h.1)]; rfl) | (rw [decide_eq_false (fun h => Int32.not_le.mpr c7 h.2)]; rfl) | (rw [decide_eq_true ⟨Int32.not_lt.mp c2, Int32.not_lt.mp c7⟩]; rfl), rfl⟩)

set_option maxHeartbeats 4000000 in
set_option maxRecDepth 100000 in
theorem ok_X11_turned {l : Launch} {a0 : Nat} {D : va_G} {sa : Nat → Nat} {T : Nat → Option hKd} {I : Nat → Nat → Int32} {L : Nat → Nat → Int64} {R : Nat → Nat → Option Nat} {A : Nat → Nat} (v n : Int32) : hM l a0 D sa yX11_turned cX11_turned 2 (some .int) { frames := 0, cells := 0, slots := 0, locals := 0 } [.int v, .int n] (T, I, L, R, A) (fun r G' => r = some (.int (iusr v n ||| isl v (nI 32 - n))) ∧ G' = (T, I, L, R, A)) := by
  refine hM.of (by decide +kernel) (Nat.le_of_ble_eq_true rfl) ?_
  intro z hl h0 hD hS hN C E
  subst hl; subst h0; subst hD; subst hS
  have C : hC z RX11 cX11_turned := C
  have hZ := E.2.2.2.1
  show hX z 0 0 (T, I, L, R, A) [(0, .int v), (1, .int n)] 0 []
  refine x_iload_n C dX11_turned_0 0 rfl rfl ?_
  refine x_iload_n C dX11_turned_1 1 rfl rfl ?_
  refine x_iushr C dX11_turned_2 ?_
  refine x_iload_n C dX11_turned_3 0 rfl rfl ?_
  refine x_bipush (v := nI 32) C dX11_turned_4 (by decide +kernel) ?_
  refine x_iload_n C dX11_turned_6 1 rfl rfl ?_
  refine x_isub C dX11_turned_7 ?_
  refine x_ishl C dX11_turned_8 ?_
  refine x_ior C dX11_turned_9 ?_
  exact x_iret C E (Nat.le_of_ble_eq_true rfl) (Nat.le_of_ble_eq_true rfl) dX11_turned_10 (⟨rfl, rfl⟩)

theorem cp_0 (I : Nat → Nat → Int32) (a b p q : Nat) : I = va_up I b (fun j => if q ≤ j ∧ j < q + 0 then I a (p + (j - q)) else I b j) := by
  funext x y
  by_cases h : x = b
  · subst h; rw [va_up_same, if_neg (by omega)]
  · rw [va_up_other _ _ h]
theorem cp_s {I : Nat → Nat → Int32} {a b p q n na nb k : Nat} (hab : a = b → p + n ≤ q ∨ q + n ≤ p) (hp : p + n ≤ na) (hq : q + n ≤ nb) (hk : k < n) : va_up (va_up I b (fun j => if q ≤ j ∧ j < q + k then I a (p + (j - q)) else I b j)) b (upd ((va_up I b (fun j => if q ≤ j ∧ j < q + k then I a (p + (j - q)) else I b j)) b) (q + k) ((va_up I b (fun j => if q ≤ j ∧ j < q + k then I a (p + (j - q)) else I b j)) a (p + k))) = va_up I b (fun j => if q ≤ j ∧ j < q + (k + 1) then I a (p + (j - q)) else I b j) := by
  have e : (va_up I b (fun j => if q ≤ j ∧ j < q + k then I a (p + (j - q)) else I b j)) a (p + k) = I a (p + k) := by
    by_cases h : a = b
    · subst h; rw [va_up_same, if_neg (by have := hab rfl; omega)]
    · rw [va_up_other _ _ h]
  rw [e]
  funext x y
  by_cases h : x = b
  · subst h
    rw [va_up_same, va_up_same, va_up_same]
    unfold upd
    dsimp only
    by_cases hy : y = q + k
    · subst hy; rw [if_pos rfl, if_pos (by omega), show q + k - q = k by omega]
    · rw [if_neg hy]
      by_cases h2 : q ≤ y ∧ y < q + k
      · rw [if_pos h2, if_pos (by omega)]
      · rw [if_neg h2, if_neg (by omega)]
  · rw [va_up_other _ _ h, va_up_other _ _ h, va_up_other _ _ h]
set_option maxHeartbeats 4000000 in
set_option maxRecDepth 100000 in
theorem ok_X11_copy {l : Launch} {a0 : Nat} {D : va_G} {sa : Nat → Nat} {T : Nat → Option hKd} {I : Nat → Nat → Int32} {L : Nat → Nat → Int64} {R : Nat → Nat → Option Nat} {A : Nat → Nat} (a b p q n na nb : Nat) (hTa : T a = some (.inl (.int, na))) (hTb : T b = some (.inl (.int, nb))) (hb0 : a0 ≤ A b) (hp : p + n ≤ na) (hq : q + n ≤ nb) (hna : na < 2 ^ 31) (hnb : nb < 2 ^ 31) (hab : a = b → p + n ≤ q ∨ q + n ≤ p) : hM l a0 D sa yX11_copy cX11_copy 6 none { frames := 0, cells := 0, slots := 0, locals := 0 } [.ref (A a), .int (nI p), .ref (A b), .int (nI q), .int (nI n)] (T, I, L, R, A) (fun r G' => r = none ∧ G' = (T, va_up I b (fun j => if q ≤ j ∧ j < q + n then I a (p + (j - q)) else I b j), L, R, A)) := by
  refine hM.of (by decide +kernel) (Nat.le_of_ble_eq_true rfl) ?_
  intro z hl h0 hD hS hN C E
  subst hl; subst h0; subst hD; subst hS
  have C : hC z RX11 cX11_copy := C
  have hZ := E.2.2.2.1
  show hX z 0 0 (T, I, L, R, A) [(0, .ref (A a)), (1, .int (nI p)), (2, .ref (A b)), (3, .int (nI q)), (4, .int (nI n))] 0 []
  refine x_iconst (v := nI 0) C dX11_copy_0 (by decide +kernel) ?_
  refine x_istore (lv' := [(5, .int (nI 0)), (0, .ref (A a)), (1, .int (nI p)), (2, .ref (A b)), (3, .int (nI q)), (4, .int (nI n))]) C dX11_copy_1 (Nat.lt_of_lt_of_eq (by decide) hN.symm) rfl ?_
  have L3 : ∀ (f : Nat) (k : Nat) (J : Nat → Nat → Int32), n - k < f → k ≤ n → J = va_up I b (fun j => if q ≤ j ∧ j < q + k then I a (p + (j - q)) else I b j) → hX z 0 0 (T, J, L, R, A) [(5, .int (nI k)), (0, .ref (A a)), (1, .int (nI p)), (2, .ref (A b)), (3, .int (nI q)), (4, .int (nI n))] 3 [] := by
    intro f
    induction f with
    | zero => intro k J hm; exact absurd hm (Nat.not_lt_zero _)
    | succ f ih3 =>
      intro k J hm hk hJ
      refine x_iload C dX11_copy_3 0 rfl ?_
      refine x_iload C dX11_copy_5 5 rfl ?_
      refine x_icmp_geN (tgt := 28) C (by omega) (by omega) dX11_copy_7 (by decide) (fun c7 => ?_) (fun c7 => ?_)
      · exact x_vret C E (Nat.le_of_ble_eq_true rfl) (Nat.le_of_ble_eq_true rfl) dX11_copy_28 (⟨rfl, by rw [hJ, show k = n by omega]⟩)
      · refine x_aload_n C dX11_copy_10 3 rfl rfl ?_
        refine x_iload_n C dX11_copy_11 4 rfl rfl ?_
        refine x_iload C dX11_copy_12 0 rfl ?_
        refine x_iaddN C dX11_copy_14 ?_
        refine x_aload_n C dX11_copy_15 1 rfl rfl ?_
        refine x_iload_n C dX11_copy_16 2 rfl rfl ?_
        refine x_iload C dX11_copy_17 0 rfl ?_
        refine x_iaddN C dX11_copy_19 ?_
        refine x_ialdN C hTa (by omega) (by omega) dX11_copy_20 ?_
        refine x_iastN C hTb hb0 (by omega) (by omega) dX11_copy_21 (fun I1 eI1 => ?_)
        refine x_iinc (v := nI (k + 1)) (lv' := [(5, .int (nI (k + 1))), (0, .ref (A a)), (1, .int (nI p)), (2, .ref (A b)), (3, .int (nI q)), (4, .int (nI n))]) C dX11_copy_22 0 rfl (nI_inc 1) (Nat.lt_of_lt_of_eq (by decide) hN.symm) rfl ?_
        refine x_goto (tgt := 3) C dX11_copy_25 (by decide) ?_
        refine x_sub (lv' := _) [0, 1, 2, 3, 4, 5] rfl ?_
        exact ih3 (k + 1) I1 (by omega) (by omega) (by rw [eI1, hJ]; exact cp_s hab hp hq c7)
  refine x_sub (lv' := _) [0, 1, 2, 3, 4, 5] rfl ?_
  exact L3 _ 0 I (Nat.lt_succ_self _) (by omega) (cp_0 ..)

