/-! ===== shapes of patterns, states, sides; Row, State, Side, Pattern: what is easy ===== -/
/-- a Pattern at P -/
def isPt (T : Nat → Option hKd) (R : Nat → Nat → Option Nat) (A : Nat → Nat) (a0 P : Nat) : Prop := (T P = some (.inr 3) ∧ a0 ≤ A P) ∧ (T (P + 1) = some (.inl (.array .int, 6)) ∧ a0 ≤ A (P + 1)) ∧ (T (P + 8) = some (.inl (.int, 6)) ∧ a0 ≤ A (P + 8)) ∧ R P 2 = some (P + 1) ∧ R P 3 = some (P + 8) ∧ ∀ m, m < 6 → R (P + 1) m = some (P + 2 + m) ∧ T (P + 2 + m) = some (.inl (.int, 5)) ∧ a0 ≤ A (P + 2 + m)
/-- what it holds -/
def ptI (I : Nat → Nat → Int32) (P : Nat) (kn : Nat → Bool) (ms : Nat) (sz : Nat → Nat) (tk : Nat → Nat → Nat) (hs : Bool) : Prop := (I P 0 = bI (kn 0) ∧ I P 1 = bI (kn 1) ∧ I P 4 = nI ms ∧ I P 5 = bI hs) ∧ (∀ m, m < 6 → I (P + 8) m = nI (sz m)) ∧ (∀ m, m < 6 → ∀ k, k < 5 → I (P + 2 + m) k = nI (tk m k)) ∧ ms ≤ 6 ∧ (∀ m, sz m ≤ 5) ∧ (∀ m k, tk m k ≤ 5) ∧ ∀ m, ms ≤ m → sz m = 0
/-- a State at u -/
def isSt (T : Nat → Option hKd) (R : Nat → Nat → Option Nat) (A : Nat → Nat) (a0 u : Nat) : Prop := T u = some (.inr 7) ∧ a0 ≤ A u ∧ ∀ j, j < 7 → R u j = some (u + 1 + j) ∧ T (u + 1 + j) = some (.inl (.int, 32)) ∧ a0 ≤ A (u + 1 + j)
/-- a Side at S of the Pattern at P -/
def isSd (T : Nat → Option hKd) (R : Nat → Nat → Option Nat) (A : Nat → Nat) (a0 S P : Nat) : Prop := (T S = some (.inr 6) ∧ a0 ≤ A S) ∧ (R S 0 = some P ∧ R S 4 = some (S + 1) ∧ R S 5 = some (S + 2) ∧ R S 6 = some (S + 3) ∧ R S 8 = some (S + 4)) ∧ (∀ j, 1 ≤ j → j ≤ 3 → T (S + j) = some (.inl (.int, 32)) ∧ a0 ≤ A (S + j)) ∧ isSt T R A a0 (S + 4)
theorem isX.tr {T : Nat → Option hKd} {R : Nat → Nat → Option Nat} {A : Nat → Nat} {a0 : Nat} (h : isX T R A a0) : isSt T R A a0 143 := by
  refine ⟨(h.1 143 _ rfl).1, (h.1 143 _ rfl).2, fun j hj => ?_⟩
  rcases (show j = 0 ∨ j = 1 ∨ j = 2 ∨ j = 3 ∨ j = 4 ∨ j = 5 ∨ j = 6 by omega) with rfl | rfl | rfl | rfl | rfl | rfl | rfl
  · exact ⟨h.2.1 143 0 _ rfl, (h.1 144 _ rfl).1, (h.1 144 _ rfl).2⟩
  · exact ⟨h.2.1 143 1 _ rfl, (h.1 145 _ rfl).1, (h.1 145 _ rfl).2⟩
  · exact ⟨h.2.1 143 2 _ rfl, (h.1 146 _ rfl).1, (h.1 146 _ rfl).2⟩
  · exact ⟨h.2.1 143 3 _ rfl, (h.1 147 _ rfl).1, (h.1 147 _ rfl).2⟩
  · exact ⟨h.2.1 143 4 _ rfl, (h.1 148 _ rfl).1, (h.1 148 _ rfl).2⟩
  · exact ⟨h.2.1 143 5 _ rfl, (h.1 149 _ rfl).1, (h.1 149 _ rfl).2⟩
  · exact ⟨h.2.1 143 6 _ rfl, (h.1 150 _ rfl).1, (h.1 150 _ rfl).2⟩
theorem upd_id {f : Nat → Int32} {k : Nat} {v : Int32} (h : f k = v) : upd f k v = f := by
  funext j; unfold upd; split
  · rename_i e; rw [e, h]
  · rfl
theorem pa_s {f g : Nat → Int32} {v : Int32} {s i k : Nat} (h : i ≤ k) (hv : v = f k) : upd (fun t => if s ≤ t ∧ t < s + (k - i) then f (i + (t - s)) else g t) (s + (k - i)) v = (fun t => if s ≤ t ∧ t < s + (k + 1 - i) then f (i + (t - s)) else g t) := by
  funext t
  unfold upd
  by_cases ht : t = s + (k - i)
  · rw [if_pos ht, if_pos (by omega), hv, ht, show i + (s + (k - i) - s) = k by omega]
  · rw [if_neg ht]
    show (if s ≤ t ∧ t < s + (k - i) then f (i + (t - s)) else g t) = _
    by_cases h2 : s ≤ t ∧ t < s + (k - i)
    · rw [if_pos h2, if_pos (by omega)]
    · rw [if_neg h2, if_neg (by omega)]
set_option maxHeartbeats 4000000 in
set_option maxRecDepth 100000 in
theorem ok_X4_putAll {l : Launch} {a0 : Nat} {D : va_G} {sa : Nat → Nat} {T : Nat → Option hKd} {I : Nat → Nat → Int32} {L : Nat → Nat → Int64} {R : Nat → Nat → Option Nat} {A : Nat → Nat} (h b cap s : Nat) (hT : T h = some (.inr 4)) (hR : R h 0 = some b) (hTb : T b = some (.inl (.int, cap))) (hcap : cap < 2 ^ 31) (hs : I h 1 = nI s) (hsc : s ≤ cap) (hh0 : a0 ≤ A h) (hb0 : a0 ≤ A b) (hhb : h ≠ b) (x nx i e : Nat) (hTx : T x = some (.inl (.int, nx))) (hnx : nx < 2 ^ 31) (hie : i ≤ e) (hen : e ≤ nx) (hfit : s + (e - i) ≤ cap) (hxb : x ≠ b) (hxh : x ≠ h) : hM l a0 D sa yX4_putAll cX4_putAll 5 none { frames := 1, cells := 0, slots := 0, locals := 21 } [.ref (A h), .ref (A x), .int (nI i), .int (nI e)] (T, I, L, R, A) (fun r G' => r = none ∧ ∃ I', G' = (T, I', L, R, A) ∧ I' b = (fun t => if s ≤ t ∧ t < s + (e - i) then I x (i + (t - s)) else I b t) ∧ I' h = upd (I h) 1 (nI (s + (e - i))) ∧ fx [h, b] I I') := by
  refine hM.of (by decide +kernel) (Nat.le_of_ble_eq_true rfl) ?_
  intro z hl h0 hD hS hN C E
  subst hl; subst h0; subst hD; subst hS
  have C : hC z RX4 cX4_putAll := C
  have hZ := E.2.2.2.1
  show hX z 0 0 (T, I, L, R, A) [(0, .ref (A h)), (1, .ref (A x)), (2, .int (nI i)), (3, .int (nI e))] 0 []
  refine x_iload_n C dX4_putAll_0 2 rfl rfl ?_
  refine x_istore (lv' := [(4, .int (nI i)), (0, .ref (A h)), (1, .ref (A x)), (2, .int (nI i)), (3, .int (nI e))]) C dX4_putAll_1 (Nat.lt_of_lt_of_eq (by decide) hN.symm) rfl ?_
  have L3 : ∀ (fuel_ : Nat) (k : Nat) (J : Nat → Nat → Int32), e - k < fuel_ → (i ≤ k ∧ k ≤ e) → (J h 1 = nI (s + (k - i))) → (J b = (fun t => if s ≤ t ∧ t < s + (k - i) then I x (i + (t - s)) else I b t)) → (J h = upd (I h) 1 (nI (s + (k - i)))) → (fx [h, b] I J) → hX z 0 0 (T, J, L, R, A) [(4, .int (nI k)), (0, .ref (A h)), (1, .ref (A x)), (2, .int (nI i)), (3, .int (nI e))] 3 [] := by
    intro fuel_
    induction fuel_ with
    | zero => intro k J hmz; exact absurd hmz (Nat.not_lt_zero _)
    | succ fuel_ ih3 =>
      intro k J hmz hk hJs hJb hJh hJf
      refine x_iload C dX4_putAll_3 0 rfl ?_
      refine x_iload_n C dX4_putAll_5 4 rfl rfl ?_
      refine x_icmp_geN (tgt := 23) C (by omega) (by omega) dX4_putAll_6 (by decide) (fun c6 => ?_) (fun c6 => ?_)
      · exact x_vret C E (Nat.le_of_ble_eq_true rfl) (Nat.le_of_ble_eq_true rfl) dX4_putAll_23 (⟨rfl, J, rfl, by rw [hJb, show k = e by omega], by rw [hJh, show k = e by omega], hJf⟩)
      · refine x_aload_n C dX4_putAll_9 1 rfl rfl ?_
        refine x_aload_n C dX4_putAll_10 2 rfl rfl ?_
        refine x_iload C dX4_putAll_11 0 rfl ?_
        refine x_ialdN C hTx (by omega) (by omega) dX4_putAll_13 ?_
        refine x_callV C (ok_X4_put h b cap (s + (k - i)) hT hR hTb hh0 hb0 hhb hcap hJs (by omega) (J x k)) mv_X4_put ml_X4_19 hT rfl rfl rfl (Nat.le_of_ble_eq_true rfl) (hrm (rm := { frames := 0, cells := 0, slots := 0, locals := 0 }) hZ ⟨Nat.le_of_ble_eq_true rfl, Nat.le_of_ble_eq_true rfl⟩) (hcs hZ ⟨Nat.le_of_ble_eq_true rfl, Nat.le_of_ble_eq_true rfl⟩) dX4_putAll_14 (fun v G' hp => ?_)
        obtain ⟨rfl, K, rfl, k1, k2, k3⟩ := hp
        show hX z 0 0 (T, K, L, R, A) [(4, .int (nI k)), (0, .ref (A h)), (1, .ref (A x)), (2, .int (nI i)), (3, .int (nI e))] 17 []
        refine x_iinc (v := nI (k + 1)) (lv' := [(4, .int (nI (k + 1))), (0, .ref (A h)), (1, .ref (A x)), (2, .int (nI i)), (3, .int (nI e))]) C dX4_putAll_17 0 rfl (nI_inc 1) (Nat.lt_of_lt_of_eq (by decide) hN.symm) rfl ?_
        refine x_goto (tgt := 3) C dX4_putAll_20 (by decide) ?_
        refine x_sub (lv' := _) [0, 1, 2, 3, 4] rfl ?_
        exact ih3 (k + 1) K (by omega) (by omega) (by rw [k2]; simp [upd]; congr 1; omega) (by rw [k1, hJb]; exact pa_s (by omega) (by rw [hJf x (by simp [hxh, hxb])])) (by rw [k2, hJh, show s + (k + 1 - i) = s + (k - i) + 1 by omega]; funext t; unfold upd; by_cases ht : t = 1 <;> simp [ht]) (hJf.tr k3 (by simp))
  refine x_sub (lv' := _) [0, 1, 2, 3, 4] rfl ?_
  exact L3 _ i I (Nat.lt_succ_self _) (by omega) (by rw [Nat.sub_self]; exact hs) (by funext t; rw [if_neg (by omega)]) (by rw [Nat.sub_self]; exact (upd_id hs).symm) fx.rf

set_option maxHeartbeats 4000000 in
set_option maxRecDepth 100000 in
theorem ok_X4_at {l : Launch} {a0 : Nat} {D : va_G} {sa : Nat → Nat} {T : Nat → Option hKd} {I : Nat → Nat → Int32} {L : Nat → Nat → Int64} {R : Nat → Nat → Option Nat} {A : Nat → Nat} (h b cap s : Nat) (hT : T h = some (.inr 4)) (hR : R h 0 = some b) (hTb : T b = some (.inl (.int, cap))) (hcap : cap < 2 ^ 31) (hs : I h 1 = nI s) (hsc : s ≤ cap) (i : Int32) : hM l a0 D sa yX4_at cX4_at 2 (some .int) { frames := 0, cells := 0, slots := 0, locals := 0 } [.ref (A h), .int i] (T, I, L, R, A) (fun r G' => ((∃ k, k < s ∧ i = nI k ∧ r = some (.int (I b k))) ∨ ((i < 0 ∨ nI s ≤ i) ∧ r = some (.int (-1)))) ∧ G' = (T, I, L, R, A)) := by
  refine hM.of (by decide +kernel) (Nat.le_of_ble_eq_true rfl) ?_
  intro z hl h0 hD hS hN C E
  subst hl; subst h0; subst hD; subst hS
  have C : hC z RX4 cX4_at := C
  have hZ := E.2.2.2.1
  show hX z 0 0 (T, I, L, R, A) [(0, .ref (A h)), (1, .int i)] 0 []
  refine x_iload_n C dX4_at_0 1 rfl rfl ?_
  refine x_if_lt (tgt := 21) C dX4_at_1 (by decide) (fun c1 => ?_) (fun c1 => ?_)
  · refine x_iconst (v := (-1)) C dX4_at_21 (by decide +kernel) ?_
    exact x_iret C E (Nat.le_of_ble_eq_true rfl) (Nat.le_of_ble_eq_true rfl) dX4_at_22 (⟨Or.inr ⟨by first | exact Or.inl c1 | exact Or.inr c9, rfl⟩, rfl⟩)
  · refine x_iload_n C dX4_at_4 1 rfl rfl ?_
    refine x_aload_n C dX4_at_5 0 rfl rfl ?_
    refine x_getiN C fl_X4_9 hT rfl dX4_at_6 ?_
    refine x_eqi (y := nI s) hs ?_
    refine x_icmp_ge (tgt := 21) C dX4_at_9 (by decide) (fun c9 => ?_) (fun c9 => ?_)
    · refine x_iconst (v := (-1)) C dX4_at_21 (by decide +kernel) ?_
      exact x_iret C E (Nat.le_of_ble_eq_true rfl) (Nat.le_of_ble_eq_true rfl) dX4_at_22 (⟨Or.inr ⟨by first | exact Or.inl c1 | exact Or.inr c9, rfl⟩, rfl⟩)
    · obtain ⟨k, hk, rfl⟩ := nI_ofx c1 (Int32.not_le.mp c9) (by omega)
      refine x_aload_n C dX4_at_12 0 rfl rfl ?_
      refine x_getrN C fl_X4_15 hT rfl hR dX4_at_13 ?_
      refine x_iload_n C dX4_at_16 1 rfl rfl ?_
      refine x_ialdN C hTb (by omega) (by omega) dX4_at_17 ?_
      refine x_goto (tgt := 22) C dX4_at_18 (by decide) ?_
      exact x_iret C E (Nat.le_of_ble_eq_true rfl) (Nat.le_of_ble_eq_true rfl) dX4_at_22 (⟨Or.inl ⟨k, hk, rfl, rfl⟩, rfl⟩)

/-- a row added to a sum -/
def rAd (f : Nat → Int32) : Nat → Int64 → Int64
  | 0, x => x
  | n + 1, x => 31 * rAd f n x + (f n).toInt64
theorem rAd_cong {f g : Nat → Int32} {n : Nat} (x : Int64) (h : ∀ j, j < n → f j = g j) : rAd f n x = rAd g n x := by
  induction n with
  | zero => rfl
  | succ n ih => unfold rAd; rw [ih (fun j hj => h j (by omega)), h n (by omega)]
set_option maxHeartbeats 4000000 in
set_option maxRecDepth 100000 in
theorem ok_X4_addTo {l : Launch} {a0 : Nat} {D : va_G} {sa : Nat → Nat} {T : Nat → Option hKd} {I : Nat → Nat → Int32} {L : Nat → Nat → Int64} {R : Nat → Nat → Option Nat} {A : Nat → Nat} (h b cap s : Nat) (hT : T h = some (.inr 4)) (hR : R h 0 = some b) (hTb : T b = some (.inl (.int, cap))) (hcap : cap < 2 ^ 31) (hs : I h 1 = nI s) (hsc : s ≤ cap) (x : Int64) : hM l a0 D sa yX4_addTo cX4_addTo 4 (some .long) { frames := 0, cells := 0, slots := 0, locals := 0 } [.ref (A h), .long x] (T, I, L, R, A) (fun r G' => r = some (.long (rAd (I b) s x)) ∧ G' = (T, I, L, R, A)) := by
  refine hM.of (by decide +kernel) (Nat.le_of_ble_eq_true rfl) ?_
  intro z hl h0 hD hS hN C E
  subst hl; subst h0; subst hD; subst hS
  have C : hC z RX4 cX4_addTo := C
  have hZ := E.2.2.2.1
  show hX z 0 0 (T, I, L, R, A) [(0, .ref (A h)), (1, .long x)] 0 []
  refine x_iconst (v := nI 0) C dX4_addTo_0 (by decide +kernel) ?_
  refine x_istore_n (lv' := [(3, .int (nI 0)), (0, .ref (A h)), (1, .long x)]) C dX4_addTo_1 rfl (Nat.lt_of_lt_of_eq (by decide) hN.symm) rfl ?_
  have L2 : ∀ (fuel_ : Nat) (k : Nat) (v : Int64), s - k < fuel_ → (k ≤ s) → (v = rAd (I b) k x) → hX z 0 0 (T, I, L, R, A) [(3, .int (nI k)), (0, .ref (A h)), (1, .long v)] 2 [] := by
    intro fuel_
    induction fuel_ with
    | zero => intro k v hmz; exact absurd hmz (Nat.not_lt_zero _)
    | succ fuel_ ih2 =>
      intro k v hmz hk hv
      refine x_iload_n C dX4_addTo_2 0 rfl rfl ?_
      refine x_aload_n C dX4_addTo_3 1 rfl rfl ?_
      refine x_getiN C fl_X4_9 hT rfl dX4_addTo_4 ?_
      refine x_eqi (y := nI s) hs ?_
      refine x_icmp_geN (tgt := 30) C (by omega) (by omega) dX4_addTo_7 (by decide) (fun c7 => ?_) (fun c7 => ?_)
      · refine x_lload_n C dX4_addTo_30 2 rfl rfl ?_
        exact x_lret C E (Nat.le_of_ble_eq_true rfl) (Nat.le_of_ble_eq_true rfl) dX4_addTo_31 (⟨by rw [hv, show k = s by omega], rfl⟩)
      · refine x_ldc2 C dX4_addTo_10 kc_X4_23 ?_
        refine x_lload_n C dX4_addTo_13 2 rfl rfl ?_
        refine x_lmul C dX4_addTo_14 ?_
        refine x_aload_n C dX4_addTo_15 1 rfl rfl ?_
        refine x_getrN C fl_X4_15 hT rfl hR dX4_addTo_16 ?_
        refine x_iload_n C dX4_addTo_19 0 rfl rfl ?_
        refine x_ialdN C hTb (by omega) (by omega) dX4_addTo_20 ?_
        refine x_i2l C dX4_addTo_21 ?_
        refine x_ladd C dX4_addTo_22 ?_
        refine x_lstore_n (lv' := [(1, .long ((31 * v) + (Int32.toInt64 (I b k)))), (3, .int (nI k)), (0, .ref (A h))]) C dX4_addTo_23 rfl (Nat.lt_of_lt_of_eq (by decide) hN.symm) rfl ?_
        refine x_iinc (v := nI (k + 1)) (lv' := [(3, .int (nI (k + 1))), (1, .long ((31 * v) + (Int32.toInt64 (I b k)))), (0, .ref (A h))]) C dX4_addTo_24 1 rfl (nI_inc 1) (Nat.lt_of_lt_of_eq (by decide) hN.symm) rfl ?_
        refine x_goto (tgt := 2) C dX4_addTo_27 (by decide) ?_
        refine x_sub (lv' := _) [0, 2, 1] rfl ?_
        exact ih2 (k + 1) ((31 * v) + (Int32.toInt64 (I b k))) (by omega) (by omega) (by rw [hv]; rfl)
  refine x_sub (lv' := _) [0, 1, 2] rfl ?_
  exact L2 _ 0 x (Nat.lt_succ_self _) (by omega) rfl

/-- i rows and the fields below f are copied -/
def cf (I : Nat → Nat → Int32) (u w i f : Nat) (J : Nat → Nat → Int32) : Prop := (∀ j, j < i → ∀ t, t < 32 → J (u + 1 + j) t = I (w + 1 + j) t) ∧ (∀ k, 7 ≤ k → k < f → J u k = I w k) ∧ ∀ q, q ≠ u → ¬ (u + 1 ≤ q ∧ q < u + 1 + i) → J q = I q
theorem cf_w {I J : Nat → Nat → Int32} {u w i f : Nat} (huw : u + 8 ≤ w ∨ w + 8 ≤ u) (hi : i ≤ 7) (c : cf I u w i f J) : J w = I w := c.2.2 w (by omega) (by omega)
theorem cf_a {I J J' : Nat → Nat → Int32} {u w i f : Nat} (huw : u + 8 ≤ w ∨ w + 8 ≤ u) (hi : i < 7) (c : cf I u w i f J) (e : J' = va_up J (u + 1 + i) (fun j => if j < 32 then J (w + 1 + i) j else J (u + 1 + i) j)) : cf I u w (i + 1) f J' := by
  refine ⟨fun j hj t ht => ?_, fun k h1 h2 => ?_, fun q h1 h2 => ?_⟩
  · by_cases hji : j = i
    · subst hji
      rw [e, va_up_same]
      simp only [ht, if_true]
      rw [c.2.2 (w + 1 + j) (by omega) (by omega)]
    · rw [e, va_up_other _ _ (by omega)]; exact c.1 j (by omega) t ht
  · rw [e, va_up_other _ _ (by omega)]; exact c.2.1 k h1 h2
  · rw [e, va_up_other _ _ (by omega)]; exact c.2.2 q h1 (by omega)
theorem cf_b {I J J' : Nat → Nat → Int32} {u w f : Nat} (hf : 7 ≤ f) (c : cf I u w 7 f J) (e : J' = va_up J u (upd (J u) f (I w f))) : cf I u w 7 (f + 1) J' := by
  refine ⟨fun j hj t ht => ?_, fun k h1 h2 => ?_, fun q h1 h2 => ?_⟩
  · rw [e, va_up_other _ _ (by omega)]; exact c.1 j hj t ht
  · rw [e, va_up_same]
    unfold upd
    by_cases hk : k = f
    · rw [if_pos hk, hk]
    · rw [if_neg hk]; exact c.2.1 k h1 (by omega)
  · rw [e, va_up_other _ _ h1]; exact c.2.2 q h1 h2
set_option maxHeartbeats 4000000 in
set_option maxRecDepth 100000 in
theorem ok_X7_copyFrom {l : Launch} {a0 : Nat} {D : va_G} {sa : Nat → Nat} {T : Nat → Option hKd} {I : Nat → Nat → Int32} {L : Nat → Nat → Int64} {R : Nat → Nat → Option Nat} {A : Nat → Nat} (u w : Nat) (hu : isSt T R A a0 u) (hw : isSt T R A a0 w) (huw : u + 8 ≤ w ∨ w + 8 ≤ u) (hb : ∀ k, 7 ≤ k → k < 10 → I w k = 0 ∨ I w k = 1) : hM l a0 D sa yX7_copyFrom cX7_copyFrom 2 none { frames := 2, cells := 0, slots := 0, locals := 61 } [.ref (A u), .ref (A w)] (T, I, L, R, A) (fun r G' => r = none ∧ ∃ I', G' = (T, I', L, R, A) ∧ cf I u w 7 14 I') := by
  refine hM.of (by decide +kernel) (Nat.le_of_ble_eq_true rfl) ?_
  intro z hl h0 hD hS hN C E
  subst hl; subst h0; subst hD; subst hS
  have C : hC z RX7 cX7_copyFrom := C
  have hZ := E.2.2.2.1
  show hX z 0 0 (T, I, L, R, A) [(0, .ref (A u)), (1, .ref (A w))] 0 []
  have cI0 : cf I u w 0 7 I := ⟨fun j hj => absurd hj (Nat.not_lt_zero j), fun k h1 h2 => absurd h2 (by omega), fun q _ _ => rfl⟩
  refine x_aload_n C dX7_copyFrom_0 1 rfl rfl ?_
  refine x_getrN C fl_X7_9 hw.1 rfl (hw.2.2 0 (by decide)).1 dX7_copyFrom_1 ?_
  refine x_aload_n C dX7_copyFrom_4 0 rfl rfl ?_
  refine x_getrN C fl_X7_9 hu.1 rfl (hu.2.2 0 (by decide)).1 dX7_copyFrom_5 ?_
  refine x_callSN C (ok_X10_copyKey (w + 1 + 0) (u + 1 + 0) 32 32 (hw.2.2 0 (by decide)).2.1 (hu.2.2 0 (by decide)).2.1 (hu.2.2 0 (by decide)).2.2 (by decide) (by decide) (by decide) (by decide)) ms_X10_copyKey ml_X7_56 rfl rfl (Nat.le_of_ble_eq_true rfl) (hrm (rm := { frames := 0, cells := 0, slots := 0, locals := 0 }) hZ ⟨Nat.le_of_ble_eq_true rfl, Nat.le_of_ble_eq_true rfl⟩) (hcs hZ ⟨Nat.le_of_ble_eq_true rfl, Nat.le_of_ble_eq_true rfl⟩) dX7_copyFrom_8 (fun v G' hp => ?_)
  obtain ⟨rfl, rfl⟩ := hp
  generalize eI1 : va_up I (u + 1 + 0) (fun j => if j < 32 then I (w + 1 + 0) j else I (u + 1 + 0) j) = I1
  have cI1 := cf_a huw (by decide) cI0 eI1.symm
  show hX z 0 0 (T, I1, L, R, A) [(0, .ref (A u)), (1, .ref (A w))] 11 []
  refine x_aload_n C dX7_copyFrom_11 1 rfl rfl ?_
  refine x_getrN C fl_X7_15 hw.1 rfl (hw.2.2 1 (by decide)).1 dX7_copyFrom_12 ?_
  refine x_aload_n C dX7_copyFrom_15 0 rfl rfl ?_
  refine x_getrN C fl_X7_15 hu.1 rfl (hu.2.2 1 (by decide)).1 dX7_copyFrom_16 ?_
  refine x_callSN C (ok_X10_copyKey (w + 1 + 1) (u + 1 + 1) 32 32 (hw.2.2 1 (by decide)).2.1 (hu.2.2 1 (by decide)).2.1 (hu.2.2 1 (by decide)).2.2 (by decide) (by decide) (by decide) (by decide)) ms_X10_copyKey ml_X7_56 rfl rfl (Nat.le_of_ble_eq_true rfl) (hrm (rm := { frames := 0, cells := 0, slots := 0, locals := 0 }) hZ ⟨Nat.le_of_ble_eq_true rfl, Nat.le_of_ble_eq_true rfl⟩) (hcs hZ ⟨Nat.le_of_ble_eq_true rfl, Nat.le_of_ble_eq_true rfl⟩) dX7_copyFrom_19 (fun v G' hp => ?_)
  obtain ⟨rfl, rfl⟩ := hp
  generalize eI2 : va_up I1 (u + 1 + 1) (fun j => if j < 32 then I1 (w + 1 + 1) j else I1 (u + 1 + 1) j) = I2
  have cI2 := cf_a huw (by decide) cI1 eI2.symm
  show hX z 0 0 (T, I2, L, R, A) [(0, .ref (A u)), (1, .ref (A w))] 22 []
  refine x_aload_n C dX7_copyFrom_22 1 rfl rfl ?_
  refine x_getrN C fl_X7_18 hw.1 rfl (hw.2.2 2 (by decide)).1 dX7_copyFrom_23 ?_
  refine x_aload_n C dX7_copyFrom_26 0 rfl rfl ?_
  refine x_getrN C fl_X7_18 hu.1 rfl (hu.2.2 2 (by decide)).1 dX7_copyFrom_27 ?_
  refine x_callSN C (ok_X10_copyKey (w + 1 + 2) (u + 1 + 2) 32 32 (hw.2.2 2 (by decide)).2.1 (hu.2.2 2 (by decide)).2.1 (hu.2.2 2 (by decide)).2.2 (by decide) (by decide) (by decide) (by decide)) ms_X10_copyKey ml_X7_56 rfl rfl (Nat.le_of_ble_eq_true rfl) (hrm (rm := { frames := 0, cells := 0, slots := 0, locals := 0 }) hZ ⟨Nat.le_of_ble_eq_true rfl, Nat.le_of_ble_eq_true rfl⟩) (hcs hZ ⟨Nat.le_of_ble_eq_true rfl, Nat.le_of_ble_eq_true rfl⟩) dX7_copyFrom_30 (fun v G' hp => ?_)
  obtain ⟨rfl, rfl⟩ := hp
  generalize eI3 : va_up I2 (u + 1 + 2) (fun j => if j < 32 then I2 (w + 1 + 2) j else I2 (u + 1 + 2) j) = I3
  have cI3 := cf_a huw (by decide) cI2 eI3.symm
  show hX z 0 0 (T, I3, L, R, A) [(0, .ref (A u)), (1, .ref (A w))] 33 []
  refine x_aload_n C dX7_copyFrom_33 1 rfl rfl ?_
  refine x_getrN C fl_X7_21 hw.1 rfl (hw.2.2 3 (by decide)).1 dX7_copyFrom_34 ?_
  refine x_aload_n C dX7_copyFrom_37 0 rfl rfl ?_
  refine x_getrN C fl_X7_21 hu.1 rfl (hu.2.2 3 (by decide)).1 dX7_copyFrom_38 ?_
  refine x_callSN C (ok_X10_copyKey (w + 1 + 3) (u + 1 + 3) 32 32 (hw.2.2 3 (by decide)).2.1 (hu.2.2 3 (by decide)).2.1 (hu.2.2 3 (by decide)).2.2 (by decide) (by decide) (by decide) (by decide)) ms_X10_copyKey ml_X7_56 rfl rfl (Nat.le_of_ble_eq_true rfl) (hrm (rm := { frames := 0, cells := 0, slots := 0, locals := 0 }) hZ ⟨Nat.le_of_ble_eq_true rfl, Nat.le_of_ble_eq_true rfl⟩) (hcs hZ ⟨Nat.le_of_ble_eq_true rfl, Nat.le_of_ble_eq_true rfl⟩) dX7_copyFrom_41 (fun v G' hp => ?_)
  obtain ⟨rfl, rfl⟩ := hp
  generalize eI4 : va_up I3 (u + 1 + 3) (fun j => if j < 32 then I3 (w + 1 + 3) j else I3 (u + 1 + 3) j) = I4
  have cI4 := cf_a huw (by decide) cI3 eI4.symm
  show hX z 0 0 (T, I4, L, R, A) [(0, .ref (A u)), (1, .ref (A w))] 44 []
  refine x_aload_n C dX7_copyFrom_44 1 rfl rfl ?_
  refine x_getrN C fl_X7_24 hw.1 rfl (hw.2.2 4 (by decide)).1 dX7_copyFrom_45 ?_
  refine x_aload_n C dX7_copyFrom_48 0 rfl rfl ?_
  refine x_getrN C fl_X7_24 hu.1 rfl (hu.2.2 4 (by decide)).1 dX7_copyFrom_49 ?_
  refine x_callSN C (ok_X10_copyKey (w + 1 + 4) (u + 1 + 4) 32 32 (hw.2.2 4 (by decide)).2.1 (hu.2.2 4 (by decide)).2.1 (hu.2.2 4 (by decide)).2.2 (by decide) (by decide) (by decide) (by decide)) ms_X10_copyKey ml_X7_56 rfl rfl (Nat.le_of_ble_eq_true rfl) (hrm (rm := { frames := 0, cells := 0, slots := 0, locals := 0 }) hZ ⟨Nat.le_of_ble_eq_true rfl, Nat.le_of_ble_eq_true rfl⟩) (hcs hZ ⟨Nat.le_of_ble_eq_true rfl, Nat.le_of_ble_eq_true rfl⟩) dX7_copyFrom_52 (fun v G' hp => ?_)
  obtain ⟨rfl, rfl⟩ := hp
  generalize eI5 : va_up I4 (u + 1 + 4) (fun j => if j < 32 then I4 (w + 1 + 4) j else I4 (u + 1 + 4) j) = I5
  have cI5 := cf_a huw (by decide) cI4 eI5.symm
  show hX z 0 0 (T, I5, L, R, A) [(0, .ref (A u)), (1, .ref (A w))] 55 []
  refine x_aload_n C dX7_copyFrom_55 1 rfl rfl ?_
  refine x_getrN C fl_X7_27 hw.1 rfl (hw.2.2 5 (by decide)).1 dX7_copyFrom_56 ?_
  refine x_aload_n C dX7_copyFrom_59 0 rfl rfl ?_
  refine x_getrN C fl_X7_27 hu.1 rfl (hu.2.2 5 (by decide)).1 dX7_copyFrom_60 ?_
  refine x_callSN C (ok_X10_copyKey (w + 1 + 5) (u + 1 + 5) 32 32 (hw.2.2 5 (by decide)).2.1 (hu.2.2 5 (by decide)).2.1 (hu.2.2 5 (by decide)).2.2 (by decide) (by decide) (by decide) (by decide)) ms_X10_copyKey ml_X7_56 rfl rfl (Nat.le_of_ble_eq_true rfl) (hrm (rm := { frames := 0, cells := 0, slots := 0, locals := 0 }) hZ ⟨Nat.le_of_ble_eq_true rfl, Nat.le_of_ble_eq_true rfl⟩) (hcs hZ ⟨Nat.le_of_ble_eq_true rfl, Nat.le_of_ble_eq_true rfl⟩) dX7_copyFrom_63 (fun v G' hp => ?_)
  obtain ⟨rfl, rfl⟩ := hp
  generalize eI6 : va_up I5 (u + 1 + 5) (fun j => if j < 32 then I5 (w + 1 + 5) j else I5 (u + 1 + 5) j) = I6
  have cI6 := cf_a huw (by decide) cI5 eI6.symm
  show hX z 0 0 (T, I6, L, R, A) [(0, .ref (A u)), (1, .ref (A w))] 66 []
  refine x_aload_n C dX7_copyFrom_66 1 rfl rfl ?_
  refine x_getrN C fl_X7_30 hw.1 rfl (hw.2.2 6 (by decide)).1 dX7_copyFrom_67 ?_
  refine x_aload_n C dX7_copyFrom_70 0 rfl rfl ?_
  refine x_getrN C fl_X7_30 hu.1 rfl (hu.2.2 6 (by decide)).1 dX7_copyFrom_71 ?_
  refine x_callSN C (ok_X10_copyKey (w + 1 + 6) (u + 1 + 6) 32 32 (hw.2.2 6 (by decide)).2.1 (hu.2.2 6 (by decide)).2.1 (hu.2.2 6 (by decide)).2.2 (by decide) (by decide) (by decide) (by decide)) ms_X10_copyKey ml_X7_56 rfl rfl (Nat.le_of_ble_eq_true rfl) (hrm (rm := { frames := 0, cells := 0, slots := 0, locals := 0 }) hZ ⟨Nat.le_of_ble_eq_true rfl, Nat.le_of_ble_eq_true rfl⟩) (hcs hZ ⟨Nat.le_of_ble_eq_true rfl, Nat.le_of_ble_eq_true rfl⟩) dX7_copyFrom_74 (fun v G' hp => ?_)
  obtain ⟨rfl, rfl⟩ := hp
  generalize eI7 : va_up I6 (u + 1 + 6) (fun j => if j < 32 then I6 (w + 1 + 6) j else I6 (u + 1 + 6) j) = I7
  have cI7 := cf_a huw (by decide) cI6 eI7.symm
  show hX z 0 0 (T, I7, L, R, A) [(0, .ref (A u)), (1, .ref (A w))] 77 []
  refine x_aload_n C dX7_copyFrom_77 0 rfl rfl ?_
  refine x_aload_n C dX7_copyFrom_78 1 rfl rfl ?_
  refine x_getiN C fl_X7_33 hw.1 rfl dX7_copyFrom_79 ?_
  refine x_eqi (y := I w 7) (congrFun (cf_w huw (by decide) cI7) 7) ?_
  refine x_putzN C fl_X7_33 hu.1 hu.2.1 rfl (hb 7 (by decide) (by decide)) dX7_copyFrom_82 (fun I8 eI8 => ?_)
  have cI8 := cf_b (by decide) cI7 eI8
  refine x_aload_n C dX7_copyFrom_85 0 rfl rfl ?_
  refine x_aload_n C dX7_copyFrom_86 1 rfl rfl ?_
  refine x_getiN C fl_X7_37 hw.1 rfl dX7_copyFrom_87 ?_
  refine x_eqi (y := I w 8) (congrFun (cf_w huw (by decide) cI8) 8) ?_
  refine x_putzN C fl_X7_37 hu.1 hu.2.1 rfl (hb 8 (by decide) (by decide)) dX7_copyFrom_90 (fun I9 eI9 => ?_)
  have cI9 := cf_b (by decide) cI8 eI9
  refine x_aload_n C dX7_copyFrom_93 0 rfl rfl ?_
  refine x_aload_n C dX7_copyFrom_94 1 rfl rfl ?_
  refine x_getiN C fl_X7_40 hw.1 rfl dX7_copyFrom_95 ?_
  refine x_eqi (y := I w 9) (congrFun (cf_w huw (by decide) cI9) 9) ?_
  refine x_putzN C fl_X7_40 hu.1 hu.2.1 rfl (hb 9 (by decide) (by decide)) dX7_copyFrom_98 (fun I10 eI10 => ?_)
  have cI10 := cf_b (by decide) cI9 eI10
  refine x_aload_n C dX7_copyFrom_101 0 rfl rfl ?_
  refine x_aload_n C dX7_copyFrom_102 1 rfl rfl ?_
  refine x_getiN C fl_X7_43 hw.1 rfl dX7_copyFrom_103 ?_
  refine x_eqi (y := I w 10) (congrFun (cf_w huw (by decide) cI10) 10) ?_
  refine x_putiN C fl_X7_43 hu.1 hu.2.1 rfl dX7_copyFrom_106 (fun I11 eI11 => ?_)
  have cI11 := cf_b (by decide) cI10 eI11
  refine x_aload_n C dX7_copyFrom_109 0 rfl rfl ?_
  refine x_aload_n C dX7_copyFrom_110 1 rfl rfl ?_
  refine x_getiN C fl_X7_47 hw.1 rfl dX7_copyFrom_111 ?_
  refine x_eqi (y := I w 11) (congrFun (cf_w huw (by decide) cI11) 11) ?_
  refine x_putiN C fl_X7_47 hu.1 hu.2.1 rfl dX7_copyFrom_114 (fun I12 eI12 => ?_)
  have cI12 := cf_b (by decide) cI11 eI12
  refine x_aload_n C dX7_copyFrom_117 0 rfl rfl ?_
  refine x_aload_n C dX7_copyFrom_118 1 rfl rfl ?_
  refine x_getiN C fl_X7_50 hw.1 rfl dX7_copyFrom_119 ?_
  refine x_eqi (y := I w 12) (congrFun (cf_w huw (by decide) cI12) 12) ?_
  refine x_putiN C fl_X7_50 hu.1 hu.2.1 rfl dX7_copyFrom_122 (fun I13 eI13 => ?_)
  have cI13 := cf_b (by decide) cI12 eI13
  refine x_aload_n C dX7_copyFrom_125 0 rfl rfl ?_
  refine x_aload_n C dX7_copyFrom_126 1 rfl rfl ?_
  refine x_getiN C fl_X7_53 hw.1 rfl dX7_copyFrom_127 ?_
  refine x_eqi (y := I w 13) (congrFun (cf_w huw (by decide) cI13) 13) ?_
  refine x_putiN C fl_X7_53 hu.1 hu.2.1 rfl dX7_copyFrom_130 (fun I14 eI14 => ?_)
  have cI14 := cf_b (by decide) cI13 eI14
  exact x_vret C E (Nat.le_of_ble_eq_true rfl) (Nat.le_of_ble_eq_true rfl) dX7_copyFrom_133 (⟨rfl, _, rfl, cI14⟩)

set_option maxHeartbeats 4000000 in
set_option maxRecDepth 100000 in
theorem ok_X7_alike {l : Launch} {a0 : Nat} {D : va_G} {sa : Nat → Nat} {T : Nat → Option hKd} {I : Nat → Nat → Int32} {L : Nat → Nat → Int64} {R : Nat → Nat → Option Nat} {A : Nat → Nat} (a b na nb : Nat) (hTa : T a = some (.inl (.int, na))) (hTb : T b = some (.inl (.int, nb))) (hna : na < 2 ^ 31) (hnb : nb < 2 ^ 31) (h1 : 32 ≤ na) (h2 : 32 ≤ nb) : hM l a0 D sa yX7_alike cX7_alike 3 (some .boolean) { frames := 0, cells := 0, slots := 0, locals := 0 } [.ref (A a), .ref (A b)] (T, I, L, R, A) (fun r G' => (∃ q : Bool, r = some (.int (bI q)) ∧ (q = true ↔ ∀ j, j < 32 → I a j = I b j)) ∧ G' = (T, I, L, R, A)) := by
  refine hM.of (by decide +kernel) (Nat.le_of_ble_eq_true rfl) ?_
  intro z hl h0 hD hS hN C E
  subst hl; subst h0; subst hD; subst hS
  have C : hC z RX7 cX7_alike := C
  have hZ := E.2.2.2.1
  show hX z 0 0 (T, I, L, R, A) [(0, .ref (A a)), (1, .ref (A b))] 0 []
  refine x_iconst (v := nI 0) C dX7_alike_0 (by decide +kernel) ?_
  refine x_istore_n (lv' := [(2, .int (nI 0)), (0, .ref (A a)), (1, .ref (A b))]) C dX7_alike_1 rfl (Nat.lt_of_lt_of_eq (by decide) hN.symm) rfl ?_
  have L2 : ∀ (fuel_ : Nat) (k : Nat), 32 - k < fuel_ → (k ≤ 32) → (∀ j, j < k → I a j = I b j) → hX z 0 0 (T, I, L, R, A) [(2, .int (nI k)), (0, .ref (A a)), (1, .ref (A b))] 2 [] := by
    intro fuel_
    induction fuel_ with
    | zero => intro k hmz; exact absurd hmz (Nat.not_lt_zero _)
    | succ fuel_ ih2 =>
      intro k hmz hk hv
      refine x_iload_n C dX7_alike_2 0 rfl rfl ?_
      refine x_bipush (v := nI 32) C dX7_alike_3 (by decide +kernel) ?_
      refine x_icmp_geN (tgt := 25) C (by omega) (by omega) dX7_alike_5 (by decide) (fun c5 => ?_) (fun c5 => ?_)
      · refine x_iconst (v := nI 1) C dX7_alike_25 (by decide +kernel) ?_
        exact x_zret C E (by first | exact Or.inl rfl | exact Or.inr rfl | assumption) (Nat.le_of_ble_eq_true rfl) (Nat.le_of_ble_eq_true rfl) dX7_alike_26 (⟨⟨true, rfl, by simp; exact fun j hj => hv j (by omega)⟩, rfl⟩)
      · refine x_aload_n C dX7_alike_8 1 rfl rfl ?_
        refine x_iload_n C dX7_alike_9 0 rfl rfl ?_
        refine x_ialdN C hTa (by omega) (by omega) dX7_alike_10 ?_
        refine x_aload_n C dX7_alike_11 2 rfl rfl ?_
        refine x_iload_n C dX7_alike_12 0 rfl rfl ?_
        refine x_ialdN C hTb (by omega) (by omega) dX7_alike_13 ?_
        refine x_icmp_eq (tgt := 19) C dX7_alike_14 (by decide) (fun c14 => ?_) (fun c14 => ?_)
        · refine x_iinc (v := nI (k + 1)) (lv' := [(2, .int (nI (k + 1))), (0, .ref (A a)), (1, .ref (A b))]) C dX7_alike_19 0 rfl (nI_inc 1) (Nat.lt_of_lt_of_eq (by decide) hN.symm) rfl ?_
          refine x_goto (tgt := 2) C dX7_alike_22 (by decide) ?_
          refine x_sub (lv' := _) [0, 1, 2] rfl ?_
          exact ih2 (k + 1) (by omega) (by omega) (fun j hj => by rcases Nat.lt_or_ge j k with g | g; exact hv j g; rw [show j = k by omega]; exact c14)
        · refine x_iconst (v := nI 0) C dX7_alike_17 (by decide +kernel) ?_
          exact x_zret C E (by first | exact Or.inl rfl | exact Or.inr rfl | assumption) (Nat.le_of_ble_eq_true rfl) (Nat.le_of_ble_eq_true rfl) dX7_alike_18 (⟨⟨false, rfl, by simp; exact ⟨k, by omega, c14⟩⟩, rfl⟩)
  refine x_sub (lv' := _) [0, 1, 2] rfl ?_
  exact L2 _ 0 (Nat.lt_succ_self _) (by omega) (fun j hj => absurd hj (Nat.not_lt_zero j))

set_option maxHeartbeats 4000000 in
set_option maxRecDepth 100000 in
theorem ok_X7_fits {l : Launch} {a0 : Nat} {D : va_G} {sa : Nat → Nat} {T : Nat → Option hKd} {I : Nat → Nat → Int32} {L : Nat → Nat → Int64} {R : Nat → Nat → Option Nat} {A : Nat → Nat} (u w : Nat) (hu : isSt T R A a0 u) (hw : isSt T R A a0 w) : hM l a0 D sa yX7_fits cX7_fits 2 (some .boolean) { frames := 1, cells := 0, slots := 0, locals := 22 } [.ref (A u), .ref (A w)] (T, I, L, R, A) (fun r G' => (∃ q : Bool, r = some (.int (bI q)) ∧ (q = true ↔ (∀ j, j < 32 → I (u + 1 + 1) j = I (w + 1 + 1) j) ∧ (∀ j, j < 32 → I (u + 1 + 2) j = I (w + 1 + 3) j) ∧ ∀ j, j < 32 → I (u + 1 + 3) j = I (w + 1 + 2) j)) ∧ G' = (T, I, L, R, A)) := by
  refine hM.of (by decide +kernel) (Nat.le_of_ble_eq_true rfl) ?_
  intro z hl h0 hD hS hN C E
  subst hl; subst h0; subst hD; subst hS
  have C : hC z RX7 cX7_fits := C
  have hZ := E.2.2.2.1
  show hX z 0 0 (T, I, L, R, A) [(0, .ref (A u)), (1, .ref (A w))] 0 []
  refine x_aload_n C dX7_fits_0 0 rfl rfl ?_
  refine x_getrN C fl_X7_15 hu.1 rfl (hu.2.2 1 (by decide)).1 dX7_fits_1 ?_
  refine x_aload_n C dX7_fits_4 1 rfl rfl ?_
  refine x_getrN C fl_X7_15 hw.1 rfl (hw.2.2 1 (by decide)).1 dX7_fits_5 ?_
  refine x_callS C (ok_X7_alike (u + 1 + 1) (w + 1 + 1) 32 32 (hu.2.2 1 (by decide)).2.1 (hw.2.2 1 (by decide)).2.1 (by decide) (by decide) (by decide) (by decide)) ms_X7_alike ml_X7_60 rfl rfl (Nat.le_of_ble_eq_true rfl) (hrm (rm := { frames := 0, cells := 0, slots := 0, locals := 0 }) hZ ⟨Nat.le_of_ble_eq_true rfl, Nat.le_of_ble_eq_true rfl⟩) (hcs hZ ⟨Nat.le_of_ble_eq_true rfl, Nat.le_of_ble_eq_true rfl⟩) dX7_fits_8 (fun v G' hp => ?_)
  obtain ⟨⟨q8, rfl, g8⟩, rfl⟩ := hp
  show hX z 0 0 (T, I, L, R, A) [(0, .ref (A u)), (1, .ref (A w))] 11 [.int (bI q8)]
  refine x_if_eq (tgt := 46) C dX7_fits_11 (by decide) (fun c11 => ?_) (fun c11 => ?_)
  · refine x_iconst (v := nI 0) C dX7_fits_46 (by decide +kernel) ?_
    exact x_zret C E (by first | exact Or.inl rfl | exact Or.inr rfl | assumption) (Nat.le_of_ble_eq_true rfl) (Nat.le_of_ble_eq_true rfl) dX7_fits_47 (⟨⟨false, rfl, by simp only [Bool.false_eq_true, false_iff]; rintro ⟨x1, x2, x3⟩; first | (have := g8.mpr x1; rw [bI_F c11] at this; cases this) | (have := g22.mpr x2; rw [bI_F c25] at this; cases this) | (have := g36.mpr x3; rw [bI_F c39] at this; cases this)⟩, rfl⟩)
  · refine x_aload_n C dX7_fits_14 0 rfl rfl ?_
    refine x_getrN C fl_X7_18 hu.1 rfl (hu.2.2 2 (by decide)).1 dX7_fits_15 ?_
    refine x_aload_n C dX7_fits_18 1 rfl rfl ?_
    refine x_getrN C fl_X7_21 hw.1 rfl (hw.2.2 3 (by decide)).1 dX7_fits_19 ?_
    refine x_callS C (ok_X7_alike (u + 1 + 2) (w + 1 + 3) 32 32 (hu.2.2 2 (by decide)).2.1 (hw.2.2 3 (by decide)).2.1 (by decide) (by decide) (by decide) (by decide)) ms_X7_alike ml_X7_60 rfl rfl (Nat.le_of_ble_eq_true rfl) (hrm (rm := { frames := 0, cells := 0, slots := 0, locals := 0 }) hZ ⟨Nat.le_of_ble_eq_true rfl, Nat.le_of_ble_eq_true rfl⟩) (hcs hZ ⟨Nat.le_of_ble_eq_true rfl, Nat.le_of_ble_eq_true rfl⟩) dX7_fits_22 (fun v G' hp => ?_)
    obtain ⟨⟨q22, rfl, g22⟩, rfl⟩ := hp
    show hX z 0 0 (T, I, L, R, A) [(0, .ref (A u)), (1, .ref (A w))] 25 [.int (bI q22)]
    refine x_if_eq (tgt := 46) C dX7_fits_25 (by decide) (fun c25 => ?_) (fun c25 => ?_)
    · refine x_iconst (v := nI 0) C dX7_fits_46 (by decide +kernel) ?_
      exact x_zret C E (by first | exact Or.inl rfl | exact Or.inr rfl | assumption) (Nat.le_of_ble_eq_true rfl) (Nat.le_of_ble_eq_true rfl) dX7_fits_47 (⟨⟨false, rfl, by simp only [Bool.false_eq_true, false_iff]; rintro ⟨x1, x2, x3⟩; first | (have := g8.mpr x1; rw [bI_F c11] at this; cases this) | (have := g22.mpr x2; rw [bI_F c25] at this; cases this) | (have := g36.mpr x3; rw [bI_F c39] at this; cases this)⟩, rfl⟩)
    · refine x_aload_n C dX7_fits_28 0 rfl rfl ?_
      refine x_getrN C fl_X7_21 hu.1 rfl (hu.2.2 3 (by decide)).1 dX7_fits_29 ?_
      refine x_aload_n C dX7_fits_32 1 rfl rfl ?_
      refine x_getrN C fl_X7_18 hw.1 rfl (hw.2.2 2 (by decide)).1 dX7_fits_33 ?_
      refine x_callS C (ok_X7_alike (u + 1 + 3) (w + 1 + 2) 32 32 (hu.2.2 3 (by decide)).2.1 (hw.2.2 2 (by decide)).2.1 (by decide) (by decide) (by decide) (by decide)) ms_X7_alike ml_X7_60 rfl rfl (Nat.le_of_ble_eq_true rfl) (hrm (rm := { frames := 0, cells := 0, slots := 0, locals := 0 }) hZ ⟨Nat.le_of_ble_eq_true rfl, Nat.le_of_ble_eq_true rfl⟩) (hcs hZ ⟨Nat.le_of_ble_eq_true rfl, Nat.le_of_ble_eq_true rfl⟩) dX7_fits_36 (fun v G' hp => ?_)
      obtain ⟨⟨q36, rfl, g36⟩, rfl⟩ := hp
      show hX z 0 0 (T, I, L, R, A) [(0, .ref (A u)), (1, .ref (A w))] 39 [.int (bI q36)]
      refine x_if_eq (tgt := 46) C dX7_fits_39 (by decide) (fun c39 => ?_) (fun c39 => ?_)
      · refine x_iconst (v := nI 0) C dX7_fits_46 (by decide +kernel) ?_
        exact x_zret C E (by first | exact Or.inl rfl | exact Or.inr rfl | assumption) (Nat.le_of_ble_eq_true rfl) (Nat.le_of_ble_eq_true rfl) dX7_fits_47 (⟨⟨false, rfl, by simp only [Bool.false_eq_true, false_iff]; rintro ⟨x1, x2, x3⟩; first | (have := g8.mpr x1; rw [bI_F c11] at this; cases this) | (have := g22.mpr x2; rw [bI_F c25] at this; cases this) | (have := g36.mpr x3; rw [bI_F c39] at this; cases this)⟩, rfl⟩)
      · refine x_iconst (v := nI 1) C dX7_fits_42 (by decide +kernel) ?_
        refine x_goto (tgt := 47) C dX7_fits_43 (by decide) ?_
        exact x_zret C E (by first | exact Or.inl rfl | exact Or.inr rfl | assumption) (Nat.le_of_ble_eq_true rfl) (Nat.le_of_ble_eq_true rfl) dX7_fits_47 (⟨⟨true, rfl, by simp only [true_iff]; exact ⟨g8.mp (bI_T c11), g22.mp (bI_T c25), g36.mp (bI_T c39)⟩⟩, rfl⟩)

set_option maxHeartbeats 4000000 in
set_option maxRecDepth 100000 in
theorem ok_X6_isDone {l : Launch} {a0 : Nat} {D : va_G} {sa : Nat → Nat} {T : Nat → Option hKd} {I : Nat → Nat → Int32} {L : Nat → Nat → Int64} {R : Nat → Nat → Option Nat} {A : Nat → Nat} (S P : Nat) (hSd : isSd T R A a0 S P) (hTP : T P = some (.inr 3)) (ms nx ha : Nat) (hms : I P 4 = nI ms) (hnx : I (S + 4) 13 = nI nx) (hha : I S 2 = nI ha) (h31 : ms < 2 ^ 31 ∧ nx < 2 ^ 31 ∧ ha < 2)  : hM l a0 D sa yX6_isDone cX6_isDone 1 (some .boolean) { frames := 0, cells := 0, slots := 0, locals := 0 } [.ref (A S)] (T, I, L, R, A) (fun r G' => r = some (.int (bI (decide (ms ≤ nx)))) ∧ G' = (T, I, L, R, A)) := by
  refine hM.of (by decide +kernel) (Nat.le_of_ble_eq_true rfl) ?_
  intro z hl h0 hD hS hN C E
  subst hl; subst h0; subst hD; subst hS
  have C : hC z RX6 cX6_isDone := C
  have hZ := E.2.2.2.1
  show hX z 0 0 (T, I, L, R, A) [(0, .ref (A S))] 0 []
  refine x_aload_n C dX6_isDone_0 0 rfl rfl ?_
  refine x_getrN C fl_X6_28 hSd.1.1 rfl hSd.2.1.2.2.2.2 dX6_isDone_1 ?_
  refine x_getiN C fl_X6_46 hSd.2.2.2.1 rfl dX6_isDone_4 ?_
  refine x_eqi (y := nI nx) hnx ?_
  refine x_aload_n C dX6_isDone_7 0 rfl rfl ?_
  refine x_getrN C fl_X6_32 hSd.1.1 rfl hSd.2.1.1 dX6_isDone_8 ?_
  refine x_getiN C fl_X6_49 hTP rfl dX6_isDone_11 ?_
  refine x_eqi (y := nI ms) hms ?_
  refine x_icmp_ltN (tgt := 21) C (by omega) (by omega) dX6_isDone_14 (by decide) (fun c14 => ?_) (fun c14 => ?_)
  · refine x_iconst (v := nI 0) C dX6_isDone_21 (by decide +kernel) ?_
    exact x_zret C E (by first | exact Or.inl rfl | exact Or.inr rfl | assumption) (Nat.le_of_ble_eq_true rfl) (Nat.le_of_ble_eq_true rfl) dX6_isDone_22 (⟨by rw [decide_eq_false (by omega)]; rfl, rfl⟩)
  · refine x_iconst (v := nI 1) C dX6_isDone_17 (by decide +kernel) ?_
    refine x_goto (tgt := 22) C dX6_isDone_18 (by decide) ?_
    exact x_zret C E (by first | exact Or.inl rfl | exact Or.inr rfl | assumption) (Nat.le_of_ble_eq_true rfl) (Nat.le_of_ble_eq_true rfl) dX6_isDone_22 (⟨by rw [decide_eq_true c14]; rfl, rfl⟩)

set_option maxHeartbeats 4000000 in
set_option maxRecDepth 100000 in
theorem ok_X6_isNext {l : Launch} {a0 : Nat} {D : va_G} {sa : Nat → Nat} {T : Nat → Option hKd} {I : Nat → Nat → Int32} {L : Nat → Nat → Int64} {R : Nat → Nat → Option Nat} {A : Nat → Nat} (S P : Nat) (hSd : isSd T R A a0 S P) (hTP : T P = some (.inr 3)) (ms nx ha : Nat) (hms : I P 4 = nI ms) (hnx : I (S + 4) 13 = nI nx) (hha : I S 2 = nI ha) (h31 : ms < 2 ^ 31 ∧ nx < 2 ^ 31 ∧ ha < 2)  : hM l a0 D sa yX6_isNext cX6_isNext 1 (some .boolean) { frames := 0, cells := 0, slots := 0, locals := 0 } [.ref (A S)] (T, I, L, R, A) (fun r G' => r = some (.int (bI (decide (nx % 2 = ha)))) ∧ G' = (T, I, L, R, A)) := by
  refine hM.of (by decide +kernel) (Nat.le_of_ble_eq_true rfl) ?_
  intro z hl h0 hD hS hN C E
  subst hl; subst h0; subst hD; subst hS
  have C : hC z RX6 cX6_isNext := C
  have hZ := E.2.2.2.1
  show hX z 0 0 (T, I, L, R, A) [(0, .ref (A S))] 0 []
  refine x_aload_n C dX6_isNext_0 0 rfl rfl ?_
  refine x_getrN C fl_X6_28 hSd.1.1 rfl hSd.2.1.2.2.2.2 dX6_isNext_1 ?_
  refine x_getiN C fl_X6_46 hSd.2.2.2.1 rfl dX6_isNext_4 ?_
  refine x_eqi (y := nI nx) hnx ?_
  refine x_iconst (v := nI 1) C dX6_isNext_7 (by decide +kernel) ?_
  refine x_iandN (q := 1) C (by omega) (by omega) rfl dX6_isNext_8 ?_
  refine x_aload_n C dX6_isNext_9 0 rfl rfl ?_
  refine x_getiN C fl_X6_40 hSd.1.1 rfl dX6_isNext_10 ?_
  refine x_eqi (y := nI ha) hha ?_
  refine x_icmp_neN (tgt := 20) C (by omega) (by omega) dX6_isNext_13 (by decide) (fun c13 => ?_) (fun c13 => ?_)
  · refine x_iconst (v := nI 0) C dX6_isNext_20 (by decide +kernel) ?_
    exact x_zret C E (by first | exact Or.inl rfl | exact Or.inr rfl | assumption) (Nat.le_of_ble_eq_true rfl) (Nat.le_of_ble_eq_true rfl) dX6_isNext_21 (⟨by rw [decide_eq_false (by omega)]; rfl, rfl⟩)
  · refine x_iconst (v := nI 1) C dX6_isNext_16 (by decide +kernel) ?_
    refine x_goto (tgt := 21) C dX6_isNext_17 (by decide) ?_
    exact x_zret C E (by first | exact Or.inl rfl | exact Or.inr rfl | assumption) (Nat.le_of_ble_eq_true rfl) (Nat.le_of_ble_eq_true rfl) dX6_isNext_21 (⟨by rw [decide_eq_true (by omega)]; rfl, rfl⟩)

