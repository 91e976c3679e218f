/-! ===== the model's patterns ===== -/
/-- what the model holds of the pattern p -/
def mdP (I : Nat → Nat → Int32) (p : Nat) (kn : Nat → Bool) (ms : Nat) (sz : Nat → Nat) (tk : Nat → Nat → Nat) : Prop := (∀ h, h < 2 → I 25 (2 * p + h) = bI (kn h)) ∧ I 26 p = nI ms ∧ (∀ m, m < ms → I 27 (6 * p + m) = nI (sz m)) ∧ (∀ m, m < ms → ∀ k, k < sz m → I 28 (5 * (6 * p + m) + k) = nI (tk m k)) ∧ ms ≤ 6 ∧ (∀ m, sz m ≤ 5) ∧ ∀ m k, tk m k ≤ 5
/-- the judge's rows -/
def jM (I : Nat → Nat → Int32) (kb dn : Nat) (F : Nat → Bool) : Prop := (∀ h, h < 2 → I 29 h = bI (nbt kb h)) ∧ (∀ h, h < 2 → I 30 h = bI (nbt kb (2 + h))) ∧ (∀ t, 2 ≤ t → t < 6 → I 31 t = bI (nbt dn t)) ∧ ∀ f, 1 ≤ f → f < 6 → I 32 f = bI (F f)
theorem nb_or16 : ∀ a, a < 16 → ∀ j, j < 4 → ∀ i, i < 4 → nbt (a ||| 2 ^ j) i = (nbt a i || decide (i = j)) := by decide +kernel
theorem nb_or64 : ∀ a, a < 64 → ∀ j, j < 6 → ∀ i, i < 6 → nbt (a ||| 2 ^ j) i = (nbt a i || decide (i = j)) := by decide +kernel
theorem nd_and0 : ∀ k, k < 16 → ∀ t, t < 6 → 2 ≤ t → (decide (k &&& ndT t = ndT t)) = ((if t = 2 ∨ t = 3 then nbt k 0 else nbt k 2) && (if t = 2 ∨ t = 4 then nbt k 1 else nbt k 3)) := by decide +kernel
theorem nd_and (k : Nat) (hk : k < 16) (t : Nat) (h2 : 2 ≤ t) (h6 : t < 6) : (decide (k &&& ndT t = ndT t)) = ((if t = 2 ∨ t = 3 then nbt k 0 else nbt k 2) && (if t = 2 ∨ t = 4 then nbt k 1 else nbt k 3)) := nd_and0 k hk t h6 h2
def fl5 (h dn : Nat) (F : Nat → Bool) : Nat → Bool := upN F 5 (F 5 || stsB h dn)
def jF (h t kb dn : Nat) (F : Nat → Bool) : Nat → Bool := if t = 0 then upN F 2 (F 2 || nbt kb h) else if t = 1 then fl5 h dn (upN F 2 (F 2 || nbt kb (2 + h))) else upN (upN F 3 (F 3 || !decide (kb &&& ndT t = ndT t))) 4 (F 4 || nbt dn t)
theorem jM.fl {I J : Nat → Nat → Int32} {kb dn f : Nat} {F : Nat → Bool} {b : Bool} (h : jM I kb dn F) (hf : 1 ≤ f ∧ f < 6) (e : J = va_up I 32 (upd (I 32) f (bI b))) : jM J kb dn (upN F f b) := by
  obtain ⟨h1, h2, h3, h4⟩ := h
  refine ⟨fun x hx => ?_, fun x hx => ?_, fun x hx hy => ?_, fun x hx hy => ?_⟩
  · rw [e, va_up_other _ _ (by decide)]; exact h1 x hx
  · rw [e, va_up_other _ _ (by decide)]; exact h2 x hx
  · rw [e, va_up_other _ _ (by decide)]; exact h3 x hx hy
  · rw [e, va_up_same]
    unfold upd upN
    by_cases hq : x = f
    · rw [if_pos hq, if_pos hq]
    · rw [if_neg hq, if_neg hq]; exact h4 x hx hy
theorem jM.e {I J : Nat → Nat → Int32} {kb dn h : Nat} {F : Nat → Bool} (j : jM I kb dn F) (hk : kb < 16) (hh : h < 2) (e : J = va_up I 29 (upd (I 29) h (nI 1))) : jM J (kb ||| 2 ^ h) dn F := by
  obtain ⟨h1, h2, h3, h4⟩ := j
  refine ⟨fun x hx => ?_, fun x hx => ?_, fun x hx hy => ?_, fun x hx hy => ?_⟩
  · rw [e, va_up_same, nb_or16 kb hk h (by omega) x (by omega)]
    unfold upd
    by_cases hq : x = h
    · rw [if_pos hq, decide_eq_true hq, Bool.or_true]; rfl
    · rw [if_neg hq, decide_eq_false hq, Bool.or_false]; exact h1 x hx
  · rw [e, va_up_other _ _ (by decide), nb_or16 kb hk h (by omega) (2 + x) (by omega), decide_eq_false (by omega), Bool.or_false]; exact h2 x hx
  · rw [e, va_up_other _ _ (by decide)]; exact h3 x hx hy
  · rw [e, va_up_other _ _ (by decide)]; exact h4 x hx hy
theorem jM.s {I J : Nat → Nat → Int32} {kb dn h : Nat} {F : Nat → Bool} (j : jM I kb dn F) (hk : kb < 16) (hh : h < 2) (e : J = va_up I 30 (upd (I 30) h (nI 1))) : jM J (kb ||| 2 ^ (2 + h)) dn F := by
  obtain ⟨h1, h2, h3, h4⟩ := j
  refine ⟨fun x hx => ?_, fun x hx => ?_, fun x hx hy => ?_, fun x hx hy => ?_⟩
  · rw [e, va_up_other _ _ (by decide), nb_or16 kb hk (2 + h) (by omega) x (by omega), decide_eq_false (by omega), Bool.or_false]; exact h1 x hx
  · rw [e, va_up_same, nb_or16 kb hk (2 + h) (by omega) (2 + x) (by omega)]
    unfold upd
    by_cases hq : x = h
    · rw [if_pos hq, decide_eq_true (by omega), Bool.or_true]; rfl
    · rw [if_neg hq, decide_eq_false (by omega), Bool.or_false]; exact h2 x hx
  · rw [e, va_up_other _ _ (by decide)]; exact h3 x hx hy
  · rw [e, va_up_other _ _ (by decide)]; exact h4 x hx hy
theorem jM.d {I J : Nat → Nat → Int32} {kb dn t : Nat} {F : Nat → Bool} (j : jM I kb dn F) (hk : dn < 64) (h2t : 2 ≤ t) (ht : t < 6) (e : J = va_up I 31 (upd (I 31) t (nI 1))) : jM J kb (dn ||| 2 ^ t) F := by
  obtain ⟨h1, h2, h3, h4⟩ := j
  refine ⟨fun x hx => ?_, fun x hx => ?_, fun x hx hy => ?_, fun x hx hy => ?_⟩
  · rw [e, va_up_other _ _ (by decide)]; exact h1 x hx
  · rw [e, va_up_other _ _ (by decide)]; exact h2 x hx
  · rw [e, va_up_same, nb_or64 dn hk t ht x hy]
    unfold upd
    by_cases hq : x = t
    · rw [if_pos hq, decide_eq_true hq, Bool.or_true]; rfl
    · rw [if_neg hq, decide_eq_false hq, Bool.or_false]; exact h3 x hx hy
  · rw [e, va_up_other _ _ (by decide)]; exact h4 x hx hy
set_option maxHeartbeats 4000000 in
set_option maxRecDepth 100000 in
theorem ok_X11_seals {l : Launch} {a0 : Nat} {D : va_G} {sa : Nat → Nat} {T : Nat → Option hKd} {I : Nat → Nat → Int32} {L : Nat → Nat → Int64} {R : Nat → Nat → Option Nat} {A : Nat → Nat} (mO : isM T R A a0) (h : Nat) (hh : h < 2) (kb dn : Nat) (F : Nat → Bool) (hj : jM I kb dn F) (hkb : kb < 16) (hdn : dn < 64)  : hM l a0 D sa yX11_seals cX11_seals 3 none { frames := 0, cells := 0, slots := 0, locals := 0 } [.ref (A 63), .int (nI h)] (T, I, L, R, A) (fun r G' => r = none ∧ ∃ I', G' = (T, I', L, R, A) ∧ jM I' kb dn (fl5 h dn F) ∧ fx [32] I I') := by
  refine hM.of (by decide +kernel) (Nat.le_of_ble_eq_true rfl) ?_
  intro z hl h0 hD hS hN C E
  subst hl; subst h0; subst hD; subst hS
  have C : hC z RX11 cX11_seals := C
  have hZ := E.2.2.2.1
  show hX z 0 0 (T, I, L, R, A) [(0, .ref (A 63)), (1, .int (nI h))] 0 []
  have J89 : ∀ (q : Bool), (stsB h dn = q) → hX z 0 0 (T, I, L, R, A) [(0, .ref (A 63)), (1, .int (nI h))] 89 [.int (bI q)] := by
    intro q hq
    refine x_istore_n (lv' := [(2, .int (bI q)), (0, .ref (A 63)), (1, .int (nI h))]) C dX11_seals_89 rfl (Nat.lt_of_lt_of_eq (by decide) hN.symm) rfl ?_
    have J113 : ∀ (v : Bool), ((F 5 || q) = v) → hX z 0 0 (T, I, L, R, A) [(2, .int (bI q)), (0, .ref (A 63)), (1, .int (nI h))] 113 [.int (bI v), .int (nI 5), .ref (A 32)] := by
      intro v hv
      refine x_zastN C (mO.2.2 32 _ rfl).2.1 (mO.2.2 32 _ rfl).2.2 (by omega) (by omega) (bI_01 _) dX11_seals_113 (fun I1 eI1 => ?_)
      exact x_vret C E (Nat.le_of_ble_eq_true rfl) (Nat.le_of_ble_eq_true rfl) dX11_seals_114 (⟨rfl, _, rfl, by unfold fl5; rw [hq, hv]; exact hj.fl (by decide) eI1, by rw [eI1]; exact fx.rf.up (by simp)⟩)
    refine x_aload_n C dX11_seals_90 1 rfl rfl ?_
    refine x_getrN C fl_X11_174 mO.1 rfl (mO.2.2 32 _ rfl).1 dX11_seals_91 ?_
    refine x_iconst (v := nI 5) C dX11_seals_94 (by decide +kernel) ?_
    refine x_aload_n C dX11_seals_95 1 rfl rfl ?_
    refine x_getrN C fl_X11_174 mO.1 rfl (mO.2.2 32 _ rfl).1 dX11_seals_96 ?_
    refine x_iconst (v := nI 5) C dX11_seals_99 (by decide +kernel) ?_
    refine x_zaldN C (mO.2.2 32 _ rfl).2.1 (by omega) (by omega) dX11_seals_100 ?_
    refine x_eqi (y := bI (F 5)) (hj.2.2.2 5 (by decide) (by decide)) ?_
    refine x_if_ne (tgt := 108) C dX11_seals_101 (by decide) (fun c101 => ?_) (fun c101 => ?_)
    · refine x_iconst (v := nI 1) C dX11_seals_108 (by decide +kernel) ?_
      refine x_goto (tgt := 113) C dX11_seals_109 (by decide) ?_
      refine x_sub (lv' := _) [0, 1, 2] rfl ?_
      exact J113 true (by first | (rw [bI_T c101]; rfl) | (rw [bI_F c101, bI_T c105]; rfl) | (rw [bI_F c101, bI_F c105]; rfl))
    · refine x_iload_n C dX11_seals_104 0 rfl rfl ?_
      refine x_if_eq (tgt := 112) C dX11_seals_105 (by decide) (fun c105 => ?_) (fun c105 => ?_)
      · refine x_iconst (v := nI 0) C dX11_seals_112 (by decide +kernel) ?_
        refine x_sub (lv' := _) [0, 1, 2] rfl ?_
        exact J113 false (by first | (rw [bI_T c101]; rfl) | (rw [bI_F c101, bI_T c105]; rfl) | (rw [bI_F c101, bI_F c105]; rfl))
      · refine x_iconst (v := nI 1) C dX11_seals_108 (by decide +kernel) ?_
        refine x_goto (tgt := 113) C dX11_seals_109 (by decide) ?_
        refine x_sub (lv' := _) [0, 1, 2] rfl ?_
        exact J113 true (by first | (rw [bI_T c101]; rfl) | (rw [bI_F c101, bI_T c105]; rfl) | (rw [bI_F c101, bI_F c105]; rfl))
  refine x_iload_n C dX11_seals_0 1 rfl rfl ?_
  refine x_if_neN (tgt := 48) C (by omega) dX11_seals_1 (by decide) (fun c1 => ?_) (fun c1 => ?_)
  · refine x_aload_n C dX11_seals_48 0 rfl rfl ?_
    refine x_getrN C fl_X11_171 mO.1 rfl (mO.2.2 31 _ rfl).1 dX11_seals_49 ?_
    refine x_iconst (v := nI 3) C dX11_seals_52 (by decide +kernel) ?_
    refine x_zaldN C (mO.2.2 31 _ rfl).2.1 (by omega) (by omega) dX11_seals_53 ?_
    refine x_eqi (y := bI (nbt dn 3)) (hj.2.2.1 3 (by decide) (by decide)) ?_
    refine x_if_eq (tgt := 66) C dX11_seals_54 (by decide) (fun c54 => ?_) (fun c54 => ?_)
    · refine x_aload_n C dX11_seals_66 0 rfl rfl ?_
      refine x_getrN C fl_X11_171 mO.1 rfl (mO.2.2 31 _ rfl).1 dX11_seals_67 ?_
      refine x_iconst (v := nI 5) C dX11_seals_70 (by decide +kernel) ?_
      refine x_zaldN C (mO.2.2 31 _ rfl).2.1 (by omega) (by omega) dX11_seals_71 ?_
      refine x_eqi (y := bI (nbt dn 5)) (hj.2.2.1 5 (by decide) (by decide)) ?_
      refine x_if_eq (tgt := 88) C dX11_seals_72 (by decide) (fun c72 => ?_) (fun c72 => ?_)
      · refine x_iconst (v := nI 0) C dX11_seals_88 (by decide +kernel) ?_
        refine x_sub (lv' := _) [0, 1] rfl ?_
        exact J89 false (by unfold stsB; first | (rw [if_pos c1, if_pos c1]; rw [bI_F c10, bI_F c28]; first | rfl | simp) | (rw [if_neg c1, if_neg c1]; rw [bI_F c10, bI_F c28]; first | rfl | simp) | (rw [if_pos c1, if_pos c1]; rw [bI_F c10, bI_T c37]; first | rfl | simp) | (rw [if_neg c1, if_neg c1]; rw [bI_F c10, bI_T c37]; first | rfl | simp) | (rw [if_pos c1, if_pos c1]; rw [bI_T c19, bI_F c28]; first | rfl | simp) | (rw [if_neg c1, if_neg c1]; rw [bI_T c19, bI_F c28]; first | rfl | simp) | (rw [if_pos c1, if_pos c1]; rw [bI_T c19, bI_T c37]; first | rfl | simp) | (rw [if_neg c1, if_neg c1]; rw [bI_T c19, bI_T c37]; first | rfl | simp) | (rw [if_pos c1, if_pos c1]; rw [bI_F c54, bI_F c72]; first | rfl | simp) | (rw [if_neg c1, if_neg c1]; rw [bI_F c54, bI_F c72]; first | rfl | simp) | (rw [if_pos c1, if_pos c1]; rw [bI_F c54, bI_T c81]; first | rfl | simp) | (rw [if_neg c1, if_neg c1]; rw [bI_F c54, bI_T c81]; first | rfl | simp) | (rw [if_pos c1, if_pos c1]; rw [bI_T c63, bI_F c72]; first | rfl | simp) | (rw [if_neg c1, if_neg c1]; rw [bI_T c63, bI_F c72]; first | rfl | simp) | (rw [if_pos c1, if_pos c1]; rw [bI_T c63, bI_T c81]; first | rfl | simp) | (rw [if_neg c1, if_neg c1]; rw [bI_T c63, bI_T c81]; first | rfl | simp))
      · refine x_aload_n C dX11_seals_75 0 rfl rfl ?_
        refine x_getrN C fl_X11_171 mO.1 rfl (mO.2.2 31 _ rfl).1 dX11_seals_76 ?_
        refine x_iconst (v := nI 4) C dX11_seals_79 (by decide +kernel) ?_
        refine x_zaldN C (mO.2.2 31 _ rfl).2.1 (by omega) (by omega) dX11_seals_80 ?_
        refine x_eqi (y := bI (nbt dn 4)) (hj.2.2.1 4 (by decide) (by decide)) ?_
        refine x_if_ne (tgt := 88) C dX11_seals_81 (by decide) (fun c81 => ?_) (fun c81 => ?_)
        · refine x_iconst (v := nI 0) C dX11_seals_88 (by decide +kernel) ?_
          refine x_sub (lv' := _) [0, 1] rfl ?_
          exact J89 false (by unfold stsB; first | (rw [if_pos c1, if_pos c1]; rw [bI_F c10, bI_F c28]; first | rfl | simp) | (rw [if_neg c1, if_neg c1]; rw [bI_F c10, bI_F c28]; first | rfl | simp) | (rw [if_pos c1, if_pos c1]; rw [bI_F c10, bI_T c37]; first | rfl | simp) | (rw [if_neg c1, if_neg c1]; rw [bI_F c10, bI_T c37]; first | rfl | simp) | (rw [if_pos c1, if_pos c1]; rw [bI_T c19, bI_F c28]; first | rfl | simp) | (rw [if_neg c1, if_neg c1]; rw [bI_T c19, bI_F c28]; first | rfl | simp) | (rw [if_pos c1, if_pos c1]; rw [bI_T c19, bI_T c37]; first | rfl | simp) | (rw [if_neg c1, if_neg c1]; rw [bI_T c19, bI_T c37]; first | rfl | simp) | (rw [if_pos c1, if_pos c1]; rw [bI_F c54, bI_F c72]; first | rfl | simp) | (rw [if_neg c1, if_neg c1]; rw [bI_F c54, bI_F c72]; first | rfl | simp) | (rw [if_pos c1, if_pos c1]; rw [bI_F c54, bI_T c81]; first | rfl | simp) | (rw [if_neg c1, if_neg c1]; rw [bI_F c54, bI_T c81]; first | rfl | simp) | (rw [if_pos c1, if_pos c1]; rw [bI_T c63, bI_F c72]; first | rfl | simp) | (rw [if_neg c1, if_neg c1]; rw [bI_T c63, bI_F c72]; first | rfl | simp) | (rw [if_pos c1, if_pos c1]; rw [bI_T c63, bI_T c81]; first | rfl | simp) | (rw [if_neg c1, if_neg c1]; rw [bI_T c63, bI_T c81]; first | rfl | simp))
        · refine x_iconst (v := nI 1) C dX11_seals_84 (by decide +kernel) ?_
          refine x_goto (tgt := 89) C dX11_seals_85 (by decide) ?_
          refine x_sub (lv' := _) [0, 1] rfl ?_
          exact J89 true (by unfold stsB; first | (rw [if_pos c1, if_pos c1]; rw [bI_T c10, bI_F c19]; first | rfl | simp) | (rw [if_neg c1, if_neg c1]; rw [bI_T c10, bI_F c19]; first | rfl | simp) | (rw [if_pos c1, if_pos c1]; rw [bI_T c28, bI_F c37]; first | rfl | simp) | (rw [if_neg c1, if_neg c1]; rw [bI_T c28, bI_F c37]; first | rfl | simp) | (rw [if_pos c1, if_pos c1]; rw [bI_T c54, bI_F c63]; first | rfl | simp) | (rw [if_neg c1, if_neg c1]; rw [bI_T c54, bI_F c63]; first | rfl | simp) | (rw [if_pos c1, if_pos c1]; rw [bI_T c72, bI_F c81]; first | rfl | simp) | (rw [if_neg c1, if_neg c1]; rw [bI_T c72, bI_F c81]; first | rfl | simp))
    · refine x_aload_n C dX11_seals_57 0 rfl rfl ?_
      refine x_getrN C fl_X11_171 mO.1 rfl (mO.2.2 31 _ rfl).1 dX11_seals_58 ?_
      refine x_iconst (v := nI 2) C dX11_seals_61 (by decide +kernel) ?_
      refine x_zaldN C (mO.2.2 31 _ rfl).2.1 (by omega) (by omega) dX11_seals_62 ?_
      refine x_eqi (y := bI (nbt dn 2)) (hj.2.2.1 2 (by decide) (by decide)) ?_
      refine x_if_eq (tgt := 84) C dX11_seals_63 (by decide) (fun c63 => ?_) (fun c63 => ?_)
      · refine x_iconst (v := nI 1) C dX11_seals_84 (by decide +kernel) ?_
        refine x_goto (tgt := 89) C dX11_seals_85 (by decide) ?_
        refine x_sub (lv' := _) [0, 1] rfl ?_
        exact J89 true (by unfold stsB; first | (rw [if_pos c1, if_pos c1]; rw [bI_T c10, bI_F c19]; first | rfl | simp) | (rw [if_neg c1, if_neg c1]; rw [bI_T c10, bI_F c19]; first | rfl | simp) | (rw [if_pos c1, if_pos c1]; rw [bI_T c28, bI_F c37]; first | rfl | simp) | (rw [if_neg c1, if_neg c1]; rw [bI_T c28, bI_F c37]; first | rfl | simp) | (rw [if_pos c1, if_pos c1]; rw [bI_T c54, bI_F c63]; first | rfl | simp) | (rw [if_neg c1, if_neg c1]; rw [bI_T c54, bI_F c63]; first | rfl | simp) | (rw [if_pos c1, if_pos c1]; rw [bI_T c72, bI_F c81]; first | rfl | simp) | (rw [if_neg c1, if_neg c1]; rw [bI_T c72, bI_F c81]; first | rfl | simp))
      · refine x_aload_n C dX11_seals_66 0 rfl rfl ?_
        refine x_getrN C fl_X11_171 mO.1 rfl (mO.2.2 31 _ rfl).1 dX11_seals_67 ?_
        refine x_iconst (v := nI 5) C dX11_seals_70 (by decide +kernel) ?_
        refine x_zaldN C (mO.2.2 31 _ rfl).2.1 (by omega) (by omega) dX11_seals_71 ?_
        refine x_eqi (y := bI (nbt dn 5)) (hj.2.2.1 5 (by decide) (by decide)) ?_
        refine x_if_eq (tgt := 88) C dX11_seals_72 (by decide) (fun c72 => ?_) (fun c72 => ?_)
        · refine x_iconst (v := nI 0) C dX11_seals_88 (by decide +kernel) ?_
          refine x_sub (lv' := _) [0, 1] rfl ?_
          exact J89 false (by unfold stsB; first | (rw [if_pos c1, if_pos c1]; rw [bI_F c10, bI_F c28]; first | rfl | simp) | (rw [if_neg c1, if_neg c1]; rw [bI_F c10, bI_F c28]; first | rfl | simp) | (rw [if_pos c1, if_pos c1]; rw [bI_F c10, bI_T c37]; first | rfl | simp) | (rw [if_neg c1, if_neg c1]; rw [bI_F c10, bI_T c37]; first | rfl | simp) | (rw [if_pos c1, if_pos c1]; rw [bI_T c19, bI_F c28]; first | rfl | simp) | (rw [if_neg c1, if_neg c1]; rw [bI_T c19, bI_F c28]; first | rfl | simp) | (rw [if_pos c1, if_pos c1]; rw [bI_T c19, bI_T c37]; first | rfl | simp) | (rw [if_neg c1, if_neg c1]; rw [bI_T c19, bI_T c37]; first | rfl | simp) | (rw [if_pos c1, if_pos c1]; rw [bI_F c54, bI_F c72]; first | rfl | simp) | (rw [if_neg c1, if_neg c1]; rw [bI_F c54, bI_F c72]; first | rfl | simp) | (rw [if_pos c1, if_pos c1]; rw [bI_F c54, bI_T c81]; first | rfl | simp) | (rw [if_neg c1, if_neg c1]; rw [bI_F c54, bI_T c81]; first | rfl | simp) | (rw [if_pos c1, if_pos c1]; rw [bI_T c63, bI_F c72]; first | rfl | simp) | (rw [if_neg c1, if_neg c1]; rw [bI_T c63, bI_F c72]; first | rfl | simp) | (rw [if_pos c1, if_pos c1]; rw [bI_T c63, bI_T c81]; first | rfl | simp) | (rw [if_neg c1, if_neg c1]; rw [bI_T c63, bI_T c81]; first | rfl | simp))
        · refine x_aload_n C dX11_seals_75 0 rfl rfl ?_
          refine x_getrN C fl_X11_171 mO.1 rfl (mO.2.2 31 _ rfl).1 dX11_seals_76 ?_
          refine x_iconst (v := nI 4) C dX11_seals_79 (by decide +kernel) ?_
          refine x_zaldN C (mO.2.2 31 _ rfl).2.1 (by omega) (by omega) dX11_seals_80 ?_
          refine x_eqi (y := bI (nbt dn 4)) (hj.2.2.1 4 (by decide) (by decide)) ?_
          refine x_if_ne (tgt := 88) C dX11_seals_81 (by decide) (fun c81 => ?_) (fun c81 => ?_)
          · refine x_iconst (v := nI 0) C dX11_seals_88 (by decide +kernel) ?_
            refine x_sub (lv' := _) [0, 1] rfl ?_
            exact J89 false (by unfold stsB; first | (rw [if_pos c1, if_pos c1]; rw [bI_F c10, bI_F c28]; first | rfl | simp) | (rw [if_neg c1, if_neg c1]; rw [bI_F c10, bI_F c28]; first | rfl | simp) | (rw [if_pos c1, if_pos c1]; rw [bI_F c10, bI_T c37]; first | rfl | simp) | (rw [if_neg c1, if_neg c1]; rw [bI_F c10, bI_T c37]; first | rfl | simp) | (rw [if_pos c1, if_pos c1]; rw [bI_T c19, bI_F c28]; first | rfl | simp) | (rw [if_neg c1, if_neg c1]; rw [bI_T c19, bI_F c28]; first | rfl | simp) | (rw [if_pos c1, if_pos c1]; rw [bI_T c19, bI_T c37]; first | rfl | simp) | (rw [if_neg c1, if_neg c1]; rw [bI_T c19, bI_T c37]; first | rfl | simp) | (rw [if_pos c1, if_pos c1]; rw [bI_F c54, bI_F c72]; first | rfl | simp) | (rw [if_neg c1, if_neg c1]; rw [bI_F c54, bI_F c72]; first | rfl | simp) | (rw [if_pos c1, if_pos c1]; rw [bI_F c54, bI_T c81]; first | rfl | simp) | (rw [if_neg c1, if_neg c1]; rw [bI_F c54, bI_T c81]; first | rfl | simp) | (rw [if_pos c1, if_pos c1]; rw [bI_T c63, bI_F c72]; first | rfl | simp) | (rw [if_neg c1, if_neg c1]; rw [bI_T c63, bI_F c72]; first | rfl | simp) | (rw [if_pos c1, if_pos c1]; rw [bI_T c63, bI_T c81]; first | rfl | simp) | (rw [if_neg c1, if_neg c1]; rw [bI_T c63, bI_T c81]; first | rfl | simp))
          · refine x_iconst (v := nI 1) C dX11_seals_84 (by decide +kernel) ?_
            refine x_goto (tgt := 89) C dX11_seals_85 (by decide) ?_
            refine x_sub (lv' := _) [0, 1] rfl ?_
            exact J89 true (by unfold stsB; first | (rw [if_pos c1, if_pos c1]; rw [bI_T c10, bI_F c19]; first | rfl | simp) | (rw [if_neg c1, if_neg c1]; rw [bI_T c10, bI_F c19]; first | rfl | simp) | (rw [if_pos c1, if_pos c1]; rw [bI_T c28, bI_F c37]; first | rfl | simp) | (rw [if_neg c1, if_neg c1]; rw [bI_T c28, bI_F c37]; first | rfl | simp) | (rw [if_pos c1, if_pos c1]; rw [bI_T c54, bI_F c63]; first | rfl | simp) | (rw [if_neg c1, if_neg c1]; rw [bI_T c54, bI_F c63]; first | rfl | simp) | (rw [if_pos c1, if_pos c1]; rw [bI_T c72, bI_F c81]; first | rfl | simp) | (rw [if_neg c1, if_neg c1]; rw [bI_T c72, bI_F c81]; first | rfl | simp))
  · refine x_aload_n C dX11_seals_4 0 rfl rfl ?_
    refine x_getrN C fl_X11_171 mO.1 rfl (mO.2.2 31 _ rfl).1 dX11_seals_5 ?_
    refine x_iconst (v := nI 4) C dX11_seals_8 (by decide +kernel) ?_
    refine x_zaldN C (mO.2.2 31 _ rfl).2.1 (by omega) (by omega) dX11_seals_9 ?_
    refine x_eqi (y := bI (nbt dn 4)) (hj.2.2.1 4 (by decide) (by decide)) ?_
    refine x_if_eq (tgt := 22) C dX11_seals_10 (by decide) (fun c10 => ?_) (fun c10 => ?_)
    · refine x_aload_n C dX11_seals_22 0 rfl rfl ?_
      refine x_getrN C fl_X11_171 mO.1 rfl (mO.2.2 31 _ rfl).1 dX11_seals_23 ?_
      refine x_iconst (v := nI 5) C dX11_seals_26 (by decide +kernel) ?_
      refine x_zaldN C (mO.2.2 31 _ rfl).2.1 (by omega) (by omega) dX11_seals_27 ?_
      refine x_eqi (y := bI (nbt dn 5)) (hj.2.2.1 5 (by decide) (by decide)) ?_
      refine x_if_eq (tgt := 44) C dX11_seals_28 (by decide) (fun c28 => ?_) (fun c28 => ?_)
      · refine x_iconst (v := nI 0) C dX11_seals_44 (by decide +kernel) ?_
        refine x_goto (tgt := 89) C dX11_seals_45 (by decide) ?_
        refine x_sub (lv' := _) [0, 1] rfl ?_
        exact J89 false (by unfold stsB; first | (rw [if_pos c1, if_pos c1]; rw [bI_F c10, bI_F c28]; first | rfl | simp) | (rw [if_neg c1, if_neg c1]; rw [bI_F c10, bI_F c28]; first | rfl | simp) | (rw [if_pos c1, if_pos c1]; rw [bI_F c10, bI_T c37]; first | rfl | simp) | (rw [if_neg c1, if_neg c1]; rw [bI_F c10, bI_T c37]; first | rfl | simp) | (rw [if_pos c1, if_pos c1]; rw [bI_T c19, bI_F c28]; first | rfl | simp) | (rw [if_neg c1, if_neg c1]; rw [bI_T c19, bI_F c28]; first | rfl | simp) | (rw [if_pos c1, if_pos c1]; rw [bI_T c19, bI_T c37]; first | rfl | simp) | (rw [if_neg c1, if_neg c1]; rw [bI_T c19, bI_T c37]; first | rfl | simp) | (rw [if_pos c1, if_pos c1]; rw [bI_F c54, bI_F c72]; first | rfl | simp) | (rw [if_neg c1, if_neg c1]; rw [bI_F c54, bI_F c72]; first | rfl | simp) | (rw [if_pos c1, if_pos c1]; rw [bI_F c54, bI_T c81]; first | rfl | simp) | (rw [if_neg c1, if_neg c1]; rw [bI_F c54, bI_T c81]; first | rfl | simp) | (rw [if_pos c1, if_pos c1]; rw [bI_T c63, bI_F c72]; first | rfl | simp) | (rw [if_neg c1, if_neg c1]; rw [bI_T c63, bI_F c72]; first | rfl | simp) | (rw [if_pos c1, if_pos c1]; rw [bI_T c63, bI_T c81]; first | rfl | simp) | (rw [if_neg c1, if_neg c1]; rw [bI_T c63, bI_T c81]; first | rfl | simp))
      · refine x_aload_n C dX11_seals_31 0 rfl rfl ?_
        refine x_getrN C fl_X11_171 mO.1 rfl (mO.2.2 31 _ rfl).1 dX11_seals_32 ?_
        refine x_iconst (v := nI 3) C dX11_seals_35 (by decide +kernel) ?_
        refine x_zaldN C (mO.2.2 31 _ rfl).2.1 (by omega) (by omega) dX11_seals_36 ?_
        refine x_eqi (y := bI (nbt dn 3)) (hj.2.2.1 3 (by decide) (by decide)) ?_
        refine x_if_ne (tgt := 44) C dX11_seals_37 (by decide) (fun c37 => ?_) (fun c37 => ?_)
        · refine x_iconst (v := nI 0) C dX11_seals_44 (by decide +kernel) ?_
          refine x_goto (tgt := 89) C dX11_seals_45 (by decide) ?_
          refine x_sub (lv' := _) [0, 1] rfl ?_
          exact J89 false (by unfold stsB; first | (rw [if_pos c1, if_pos c1]; rw [bI_F c10, bI_F c28]; first | rfl | simp) | (rw [if_neg c1, if_neg c1]; rw [bI_F c10, bI_F c28]; first | rfl | simp) | (rw [if_pos c1, if_pos c1]; rw [bI_F c10, bI_T c37]; first | rfl | simp) | (rw [if_neg c1, if_neg c1]; rw [bI_F c10, bI_T c37]; first | rfl | simp) | (rw [if_pos c1, if_pos c1]; rw [bI_T c19, bI_F c28]; first | rfl | simp) | (rw [if_neg c1, if_neg c1]; rw [bI_T c19, bI_F c28]; first | rfl | simp) | (rw [if_pos c1, if_pos c1]; rw [bI_T c19, bI_T c37]; first | rfl | simp) | (rw [if_neg c1, if_neg c1]; rw [bI_T c19, bI_T c37]; first | rfl | simp) | (rw [if_pos c1, if_pos c1]; rw [bI_F c54, bI_F c72]; first | rfl | simp) | (rw [if_neg c1, if_neg c1]; rw [bI_F c54, bI_F c72]; first | rfl | simp) | (rw [if_pos c1, if_pos c1]; rw [bI_F c54, bI_T c81]; first | rfl | simp) | (rw [if_neg c1, if_neg c1]; rw [bI_F c54, bI_T c81]; first | rfl | simp) | (rw [if_pos c1, if_pos c1]; rw [bI_T c63, bI_F c72]; first | rfl | simp) | (rw [if_neg c1, if_neg c1]; rw [bI_T c63, bI_F c72]; first | rfl | simp) | (rw [if_pos c1, if_pos c1]; rw [bI_T c63, bI_T c81]; first | rfl | simp) | (rw [if_neg c1, if_neg c1]; rw [bI_T c63, bI_T c81]; first | rfl | simp))
        · refine x_iconst (v := nI 1) C dX11_seals_40 (by decide +kernel) ?_
          refine x_goto (tgt := 89) C dX11_seals_41 (by decide) ?_
          refine x_sub (lv' := _) [0, 1] rfl ?_
          exact J89 true (by unfold stsB; first | (rw [if_pos c1, if_pos c1]; rw [bI_T c10, bI_F c19]; first | rfl | simp) | (rw [if_neg c1, if_neg c1]; rw [bI_T c10, bI_F c19]; first | rfl | simp) | (rw [if_pos c1, if_pos c1]; rw [bI_T c28, bI_F c37]; first | rfl | simp) | (rw [if_neg c1, if_neg c1]; rw [bI_T c28, bI_F c37]; first | rfl | simp) | (rw [if_pos c1, if_pos c1]; rw [bI_T c54, bI_F c63]; first | rfl | simp) | (rw [if_neg c1, if_neg c1]; rw [bI_T c54, bI_F c63]; first | rfl | simp) | (rw [if_pos c1, if_pos c1]; rw [bI_T c72, bI_F c81]; first | rfl | simp) | (rw [if_neg c1, if_neg c1]; rw [bI_T c72, bI_F c81]; first | rfl | simp))
    · refine x_aload_n C dX11_seals_13 0 rfl rfl ?_
      refine x_getrN C fl_X11_171 mO.1 rfl (mO.2.2 31 _ rfl).1 dX11_seals_14 ?_
      refine x_iconst (v := nI 2) C dX11_seals_17 (by decide +kernel) ?_
      refine x_zaldN C (mO.2.2 31 _ rfl).2.1 (by omega) (by omega) dX11_seals_18 ?_
      refine x_eqi (y := bI (nbt dn 2)) (hj.2.2.1 2 (by decide) (by decide)) ?_
      refine x_if_eq (tgt := 40) C dX11_seals_19 (by decide) (fun c19 => ?_) (fun c19 => ?_)
      · refine x_iconst (v := nI 1) C dX11_seals_40 (by decide +kernel) ?_
        refine x_goto (tgt := 89) C dX11_seals_41 (by decide) ?_
        refine x_sub (lv' := _) [0, 1] rfl ?_
        exact J89 true (by unfold stsB; first | (rw [if_pos c1, if_pos c1]; rw [bI_T c10, bI_F c19]; first | rfl | simp) | (rw [if_neg c1, if_neg c1]; rw [bI_T c10, bI_F c19]; first | rfl | simp) | (rw [if_pos c1, if_pos c1]; rw [bI_T c28, bI_F c37]; first | rfl | simp) | (rw [if_neg c1, if_neg c1]; rw [bI_T c28, bI_F c37]; first | rfl | simp) | (rw [if_pos c1, if_pos c1]; rw [bI_T c54, bI_F c63]; first | rfl | simp) | (rw [if_neg c1, if_neg c1]; rw [bI_T c54, bI_F c63]; first | rfl | simp) | (rw [if_pos c1, if_pos c1]; rw [bI_T c72, bI_F c81]; first | rfl | simp) | (rw [if_neg c1, if_neg c1]; rw [bI_T c72, bI_F c81]; first | rfl | simp))
      · refine x_aload_n C dX11_seals_22 0 rfl rfl ?_
        refine x_getrN C fl_X11_171 mO.1 rfl (mO.2.2 31 _ rfl).1 dX11_seals_23 ?_
        refine x_iconst (v := nI 5) C dX11_seals_26 (by decide +kernel) ?_
        refine x_zaldN C (mO.2.2 31 _ rfl).2.1 (by omega) (by omega) dX11_seals_27 ?_
        refine x_eqi (y := bI (nbt dn 5)) (hj.2.2.1 5 (by decide) (by decide)) ?_
        refine x_if_eq (tgt := 44) C dX11_seals_28 (by decide) (fun c28 => ?_) (fun c28 => ?_)
        · refine x_iconst (v := nI 0) C dX11_seals_44 (by decide +kernel) ?_
          refine x_goto (tgt := 89) C dX11_seals_45 (by decide) ?_
          refine x_sub (lv' := _) [0, 1] rfl ?_
          exact J89 false (by unfold stsB; first | (rw [if_pos c1, if_pos c1]; rw [bI_F c10, bI_F c28]; first | rfl | simp) | (rw [if_neg c1, if_neg c1]; rw [bI_F c10, bI_F c28]; first | rfl | simp) | (rw [if_pos c1, if_pos c1]; rw [bI_F c10, bI_T c37]; first | rfl | simp) | (rw [if_neg c1, if_neg c1]; rw [bI_F c10, bI_T c37]; first | rfl | simp) | (rw [if_pos c1, if_pos c1]; rw [bI_T c19, bI_F c28]; first | rfl | simp) | (rw [if_neg c1, if_neg c1]; rw [bI_T c19, bI_F c28]; first | rfl | simp) | (rw [if_pos c1, if_pos c1]; rw [bI_T c19, bI_T c37]; first | rfl | simp) | (rw [if_neg c1, if_neg c1]; rw [bI_T c19, bI_T c37]; first | rfl | simp) | (rw [if_pos c1, if_pos c1]; rw [bI_F c54, bI_F c72]; first | rfl | simp) | (rw [if_neg c1, if_neg c1]; rw [bI_F c54, bI_F c72]; first | rfl | simp) | (rw [if_pos c1, if_pos c1]; rw [bI_F c54, bI_T c81]; first | rfl | simp) | (rw [if_neg c1, if_neg c1]; rw [bI_F c54, bI_T c81]; first | rfl | simp) | (rw [if_pos c1, if_pos c1]; rw [bI_T c63, bI_F c72]; first | rfl | simp) | (rw [if_neg c1, if_neg c1]; rw [bI_T c63, bI_F c72]; first | rfl | simp) | (rw [if_pos c1, if_pos c1]; rw [bI_T c63, bI_T c81]; first | rfl | simp) | (rw [if_neg c1, if_neg c1]; rw [bI_T c63, bI_T c81]; first | rfl | simp))
        · refine x_aload_n C dX11_seals_31 0 rfl rfl ?_
          refine x_getrN C fl_X11_171 mO.1 rfl (mO.2.2 31 _ rfl).1 dX11_seals_32 ?_
          refine x_iconst (v := nI 3) C dX11_seals_35 (by decide +kernel) ?_
          refine x_zaldN C (mO.2.2 31 _ rfl).2.1 (by omega) (by omega) dX11_seals_36 ?_
          refine x_eqi (y := bI (nbt dn 3)) (hj.2.2.1 3 (by decide) (by decide)) ?_
          refine x_if_ne (tgt := 44) C dX11_seals_37 (by decide) (fun c37 => ?_) (fun c37 => ?_)
          · refine x_iconst (v := nI 0) C dX11_seals_44 (by decide +kernel) ?_
            refine x_goto (tgt := 89) C dX11_seals_45 (by decide) ?_
            refine x_sub (lv' := _) [0, 1] rfl ?_
            exact J89 false (by unfold stsB; first | (rw [if_pos c1, if_pos c1]; rw [bI_F c10, bI_F c28]; first | rfl | simp) | (rw [if_neg c1, if_neg c1]; rw [bI_F c10, bI_F c28]; first | rfl | simp) | (rw [if_pos c1, if_pos c1]; rw [bI_F c10, bI_T c37]; first | rfl | simp) | (rw [if_neg c1, if_neg c1]; rw [bI_F c10, bI_T c37]; first | rfl | simp) | (rw [if_pos c1, if_pos c1]; rw [bI_T c19, bI_F c28]; first | rfl | simp) | (rw [if_neg c1, if_neg c1]; rw [bI_T c19, bI_F c28]; first | rfl | simp) | (rw [if_pos c1, if_pos c1]; rw [bI_T c19, bI_T c37]; first | rfl | simp) | (rw [if_neg c1, if_neg c1]; rw [bI_T c19, bI_T c37]; first | rfl | simp) | (rw [if_pos c1, if_pos c1]; rw [bI_F c54, bI_F c72]; first | rfl | simp) | (rw [if_neg c1, if_neg c1]; rw [bI_F c54, bI_F c72]; first | rfl | simp) | (rw [if_pos c1, if_pos c1]; rw [bI_F c54, bI_T c81]; first | rfl | simp) | (rw [if_neg c1, if_neg c1]; rw [bI_F c54, bI_T c81]; first | rfl | simp) | (rw [if_pos c1, if_pos c1]; rw [bI_T c63, bI_F c72]; first | rfl | simp) | (rw [if_neg c1, if_neg c1]; rw [bI_T c63, bI_F c72]; first | rfl | simp) | (rw [if_pos c1, if_pos c1]; rw [bI_T c63, bI_T c81]; first | rfl | simp) | (rw [if_neg c1, if_neg c1]; rw [bI_T c63, bI_T c81]; first | rfl | simp))
          · refine x_iconst (v := nI 1) C dX11_seals_40 (by decide +kernel) ?_
            refine x_goto (tgt := 89) C dX11_seals_41 (by decide) ?_
            refine x_sub (lv' := _) [0, 1] rfl ?_
            exact J89 true (by unfold stsB; first | (rw [if_pos c1, if_pos c1]; rw [bI_T c10, bI_F c19]; first | rfl | simp) | (rw [if_neg c1, if_neg c1]; rw [bI_T c10, bI_F c19]; first | rfl | simp) | (rw [if_pos c1, if_pos c1]; rw [bI_T c28, bI_F c37]; first | rfl | simp) | (rw [if_neg c1, if_neg c1]; rw [bI_T c28, bI_F c37]; first | rfl | simp) | (rw [if_pos c1, if_pos c1]; rw [bI_T c54, bI_F c63]; first | rfl | simp) | (rw [if_neg c1, if_neg c1]; rw [bI_T c54, bI_F c63]; first | rfl | simp) | (rw [if_pos c1, if_pos c1]; rw [bI_T c72, bI_F c81]; first | rfl | simp) | (rw [if_neg c1, if_neg c1]; rw [bI_T c72, bI_F c81]; first | rfl | simp))

theorem jd_e {J : Nat → Nat → Int32} {h t kb dn : Nat} {F : Nat → Bool} {v : Bool} (e : t = 0) (hv : (F 2 || nbt kb h) = v) (j : jM J (kb ||| 2 ^ h) dn (upN F 2 v)) : jM J (stp h t (6, kb, dn)).2.1 (stp h t (6, kb, dn)).2.2 (jF h t kb dn F) := by
  subst e
  show jM J (kb ||| 2 ^ (2 * 0 + h)) dn (upN F 2 (F 2 || nbt kb h))
  rw [hv, show 2 * 0 + h = h by omega]
  exact j
theorem jd_s {J : Nat → Nat → Int32} {h t kb dn : Nat} {F : Nat → Bool} {v : Bool} (e : t = 1) (hv : (F 2 || nbt kb (2 + h)) = v) (j : jM J (kb ||| 2 ^ (2 + h)) dn (fl5 h dn (upN F 2 v))) : jM J (stp h t (6, kb, dn)).2.1 (stp h t (6, kb, dn)).2.2 (jF h t kb dn F) := by
  subst e
  show jM J (kb ||| 2 ^ (2 * 1 + h)) dn (fl5 h dn (upN F 2 (F 2 || nbt kb (2 + h))))
  rw [hv]
  exact j
theorem jd_d {J : Nat → Nat → Int32} {h t kb dn : Nat} {F : Nat → Bool} {v v4 x y : Bool} (e : 2 ≤ t) (hkb : kb < 16) (ht : t ≤ 5) (hx : x = if t = 2 ∨ t = 3 then nbt kb 0 else nbt kb 2) (hy : y = if t = 2 ∨ t = 4 then nbt kb 1 else nbt kb 3) (hv : (F 3 || !(x && y)) = v) (hv4 : (F 4 || nbt dn t) = v4) (j : jM J kb (dn ||| 2 ^ t) (upN (upN F 3 v) 4 v4)) : jM J (stp h t (6, kb, dn)).2.1 (stp h t (6, kb, dn)).2.2 (jF h t kb dn F) := by
  have e1 : (stp h t (6, kb, dn)).2.1 = kb := if_neg (by omega)
  have e2 : (stp h t (6, kb, dn)).2.2 = dn ||| 2 ^ t := if_neg (by omega)
  have e3 : jF h t kb dn F = upN (upN F 3 v) 4 v4 := by
    unfold jF
    rw [if_neg (by omega), if_neg (by omega), nd_and kb hkb t e (by omega), ← hx, ← hy, hv, hv4]
  rw [e1, e2, e3]
  exact j
set_option maxHeartbeats 4000000 in
set_option maxRecDepth 100000 in
theorem ok_X11_judges {l : Launch} {a0 : Nat} {D : va_G} {sa : Nat → Nat} {T : Nat → Option hKd} {I : Nat → Nat → Int32} {L : Nat → Nat → Int64} {R : Nat → Nat → Option Nat} {A : Nat → Nat} (mO : isM T R A a0) (h t : Nat) (hh : h < 2) (ht : t ≤ 5) (kb dn : Nat) (F : Nat → Bool) (hj : jM I kb dn F) (hkb : kb < 16) (hdn : dn < 64)  : hM l a0 D sa yX11_judges cX11_judges 5 none { frames := 1, cells := 0, slots := 0, locals := 22 } [.ref (A 63), .int (nI h), .int (nI t)] (T, I, L, R, A) (fun r G' => r = none ∧ ∃ I', G' = (T, I', L, R, A) ∧ jM I' (stp h t (6, kb, dn)).2.1 (stp h t (6, kb, dn)).2.2 (jF h t kb dn F) ∧ fx [29, 30, 31, 32] I I') := by
  refine hM.of (by decide +kernel) (Nat.le_of_ble_eq_true rfl) ?_
  intro z hl h0 hD hS hN C E
  subst hl; subst h0; subst hD; subst hS
  have C : hC z RX11 cX11_judges := C
  have hZ := E.2.2.2.1
  show hX z 0 0 (T, I, L, R, A) [(0, .ref (A 63)), (1, .int (nI h)), (2, .int (nI t))] 0 []
  refine x_iload_n C dX11_judges_0 2 rfl rfl ?_
  refine x_if_neN (tgt := 43) C (by omega) dX11_judges_1 (by decide) (fun c1 => ?_) (fun c1 => ?_)
  · refine x_iload_n C dX11_judges_43 2 rfl rfl ?_
    refine x_iconst (v := nI 1) C dX11_judges_44 (by decide +kernel) ?_
    refine x_icmp_neN (tgt := 92) C (by omega) (by omega) dX11_judges_45 (by decide) (fun c45 => ?_) (fun c45 => ?_)
    · have J117 : ∀ (x : Bool), (x = if t = 2 ∨ t = 3 then nbt kb 0 else nbt kb 2) → hX z 0 0 (T, I, L, R, A) [(0, .ref (A 63)), (1, .int (nI h)), (2, .int (nI t))] 117 [.int (bI x)] := by
        intro x hx
        refine x_istore_n (lv' := [(3, .int (bI x)), (0, .ref (A 63)), (1, .int (nI h)), (2, .int (nI t))]) C dX11_judges_117 rfl (Nat.lt_of_lt_of_eq (by decide) hN.symm) rfl ?_
        have J143 : ∀ (y : Bool), (y = if t = 2 ∨ t = 4 then nbt kb 1 else nbt kb 3) → hX z 0 0 (T, I, L, R, A) [(3, .int (bI x)), (0, .ref (A 63)), (1, .int (nI h)), (2, .int (nI t))] 143 [.int (bI y)] := by
          intro y hy
          refine x_istore (lv' := [(4, .int (bI y)), (3, .int (bI x)), (0, .ref (A 63)), (1, .int (nI h)), (2, .int (nI t))]) C dX11_judges_143 (Nat.lt_of_lt_of_eq (by decide) hN.symm) rfl ?_
          have J173 : ∀ (v : Bool), ((F 3 || !(x && y)) = v) → hX z 0 0 (T, I, L, R, A) [(4, .int (bI y)), (3, .int (bI x)), (0, .ref (A 63)), (1, .int (nI h)), (2, .int (nI t))] 173 [.int (bI v), .int (nI 3), .ref (A 32)] := by
            intro v hv
            refine x_zastN C (mO.2.2 32 _ rfl).2.1 (mO.2.2 32 _ rfl).2.2 (by omega) (by omega) (bI_01 _) dX11_judges_173 (fun I1 eI1 => ?_)
            have j1 := hj.fl (f := 3) (by decide) eI1
            have f1 : fx [29, 30, 31, 32] I I1 := by rw [eI1]; exact (fx.rf).up (by simp)
            have J202 : ∀ (v4 : Bool), ((F 4 || nbt dn t) = v4) → hX z 0 0 (T, I1, L, R, A) [(4, .int (bI y)), (3, .int (bI x)), (0, .ref (A 63)), (1, .int (nI h)), (2, .int (nI t))] 202 [.int (bI v4), .int (nI 4), .ref (A 32)] := by
              intro v4 hv4
              refine x_zastN C (mO.2.2 32 _ rfl).2.1 (mO.2.2 32 _ rfl).2.2 (by omega) (by omega) (bI_01 _) dX11_judges_202 (fun I2 eI2 => ?_)
              have j2 := j1.fl (f := 4) (by decide) eI2
              have f2 : fx [29, 30, 31, 32] I I2 := by rw [eI2]; exact (f1).up (by simp)
              refine x_aload_n C dX11_judges_203 2 rfl rfl ?_
              refine x_getrN C fl_X11_171 mO.1 rfl (mO.2.2 31 _ rfl).1 dX11_judges_204 ?_
              refine x_iload_n C dX11_judges_207 4 rfl rfl ?_
              refine x_iconst (v := nI 1) C dX11_judges_208 (by decide +kernel) ?_
              refine x_zastN C (mO.2.2 31 _ rfl).2.1 (mO.2.2 31 _ rfl).2.2 (by omega) (by omega) (by first | exact Or.inl rfl | exact Or.inr rfl | assumption) dX11_judges_209 (fun I3 eI3 => ?_)
              have j3 := j2.d hdn (by omega) (by omega) eI3
              have f3 : fx [29, 30, 31, 32] I I3 := by rw [eI3]; exact (f2).up (by simp)
              exact x_vret C E (Nat.le_of_ble_eq_true rfl) (Nat.le_of_ble_eq_true rfl) dX11_judges_210 (⟨rfl, _, rfl, (by first | exact jd_e (by omega) hv j3 | exact jd_d (by omega) hkb ht hx hy hv hv4 j3), f3⟩)
            refine x_aload_n C dX11_judges_174 2 rfl rfl ?_
            refine x_getrN C fl_X11_174 mO.1 rfl (mO.2.2 32 _ rfl).1 dX11_judges_175 ?_
            refine x_iconst (v := nI 4) C dX11_judges_178 (by decide +kernel) ?_
            refine x_aload_n C dX11_judges_179 2 rfl rfl ?_
            refine x_getrN C fl_X11_174 mO.1 rfl (mO.2.2 32 _ rfl).1 dX11_judges_180 ?_
            refine x_iconst (v := nI 4) C dX11_judges_183 (by decide +kernel) ?_
            refine x_zaldN C (mO.2.2 32 _ rfl).2.1 (by omega) (by omega) dX11_judges_184 ?_
            refine x_eqi (y := bI (F 4)) (by rw [j1.2.2.2 4 (by decide) (by decide), upN_other _ _ (by decide)]) ?_
            refine x_if_ne (tgt := 197) C dX11_judges_185 (by decide) (fun c185 => ?_) (fun c185 => ?_)
            · refine x_iconst (v := nI 1) C dX11_judges_197 (by decide +kernel) ?_
              refine x_goto (tgt := 202) C dX11_judges_198 (by decide) ?_
              refine x_sub (lv' := _) [0, 1, 2, 3, 4] rfl ?_
              exact J202 true (by first | (rw [bI_T c185]; rfl) | (rw [bI_F c185, bI_T c194]; rfl) | (rw [bI_F c185, bI_F c194]; rfl))
            · refine x_aload_n C dX11_judges_188 2 rfl rfl ?_
              refine x_getrN C fl_X11_171 mO.1 rfl (mO.2.2 31 _ rfl).1 dX11_judges_189 ?_
              refine x_iload_n C dX11_judges_192 4 rfl rfl ?_
              refine x_zaldN C (mO.2.2 31 _ rfl).2.1 (by omega) (by omega) dX11_judges_193 ?_
              refine x_eqi (y := bI (nbt dn t)) (j1.2.2.1 t (by omega) (by omega)) ?_
              refine x_if_eq (tgt := 201) C dX11_judges_194 (by decide) (fun c194 => ?_) (fun c194 => ?_)
              · refine x_iconst (v := nI 0) C dX11_judges_201 (by decide +kernel) ?_
                refine x_sub (lv' := _) [0, 1, 2, 3, 4] rfl ?_
                exact J202 false (by first | (rw [bI_T c185]; rfl) | (rw [bI_F c185, bI_T c194]; rfl) | (rw [bI_F c185, bI_F c194]; rfl))
              · refine x_iconst (v := nI 1) C dX11_judges_197 (by decide +kernel) ?_
                refine x_goto (tgt := 202) C dX11_judges_198 (by decide) ?_
                refine x_sub (lv' := _) [0, 1, 2, 3, 4] rfl ?_
                exact J202 true (by first | (rw [bI_T c185]; rfl) | (rw [bI_F c185, bI_T c194]; rfl) | (rw [bI_F c185, bI_F c194]; rfl))
          refine x_aload_n C dX11_judges_145 2 rfl rfl ?_
          refine x_getrN C fl_X11_174 mO.1 rfl (mO.2.2 32 _ rfl).1 dX11_judges_146 ?_
          refine x_iconst (v := nI 3) C dX11_judges_149 (by decide +kernel) ?_
          refine x_aload_n C dX11_judges_150 2 rfl rfl ?_
          refine x_getrN C fl_X11_174 mO.1 rfl (mO.2.2 32 _ rfl).1 dX11_judges_151 ?_
          refine x_iconst (v := nI 3) C dX11_judges_154 (by decide +kernel) ?_
          refine x_zaldN C (mO.2.2 32 _ rfl).2.1 (by omega) (by omega) dX11_judges_155 ?_
          refine x_eqi (y := bI (F 3)) (hj.2.2.2 3 (by decide) (by decide)) ?_
          refine x_if_ne (tgt := 168) C dX11_judges_156 (by decide) (fun c156 => ?_) (fun c156 => ?_)
          · refine x_iconst (v := nI 1) C dX11_judges_168 (by decide +kernel) ?_
            refine x_goto (tgt := 173) C dX11_judges_169 (by decide) ?_
            refine x_sub (lv' := _) [0, 1, 2, 3, 4] rfl ?_
            exact J173 true (by first | (rw [bI_T c156]; rfl) | (rw [bI_F c156, bI_F c160]; rfl) | (rw [bI_F c156, bI_T c160, bI_T c165]; rfl) | (rw [bI_F c156, bI_T c160, bI_F c165]; rfl))
          · refine x_iload_n C dX11_judges_159 1 rfl rfl ?_
            refine x_if_eq (tgt := 168) C dX11_judges_160 (by decide) (fun c160 => ?_) (fun c160 => ?_)
            · refine x_iconst (v := nI 1) C dX11_judges_168 (by decide +kernel) ?_
              refine x_goto (tgt := 173) C dX11_judges_169 (by decide) ?_
              refine x_sub (lv' := _) [0, 1, 2, 3, 4] rfl ?_
              exact J173 true (by first | (rw [bI_T c156]; rfl) | (rw [bI_F c156, bI_F c160]; rfl) | (rw [bI_F c156, bI_T c160, bI_T c165]; rfl) | (rw [bI_F c156, bI_T c160, bI_F c165]; rfl))
            · refine x_iload C dX11_judges_163 0 rfl ?_
              refine x_if_ne (tgt := 172) C dX11_judges_165 (by decide) (fun c165 => ?_) (fun c165 => ?_)
              · refine x_iconst (v := nI 0) C dX11_judges_172 (by decide +kernel) ?_
                refine x_sub (lv' := _) [0, 1, 2, 3, 4] rfl ?_
                exact J173 false (by first | (rw [bI_T c156]; rfl) | (rw [bI_F c156, bI_F c160]; rfl) | (rw [bI_F c156, bI_T c160, bI_T c165]; rfl) | (rw [bI_F c156, bI_T c160, bI_F c165]; rfl))
              · refine x_iconst (v := nI 1) C dX11_judges_168 (by decide +kernel) ?_
                refine x_goto (tgt := 173) C dX11_judges_169 (by decide) ?_
                refine x_sub (lv' := _) [0, 1, 2, 3, 4] rfl ?_
                exact J173 true (by first | (rw [bI_T c156]; rfl) | (rw [bI_F c156, bI_F c160]; rfl) | (rw [bI_F c156, bI_T c160, bI_T c165]; rfl) | (rw [bI_F c156, bI_T c160, bI_F c165]; rfl))
        refine x_iload_n C dX11_judges_118 3 rfl rfl ?_
        refine x_iconst (v := nI 2) C dX11_judges_119 (by decide +kernel) ?_
        refine x_icmp_eqN (tgt := 128) C (by omega) (by omega) dX11_judges_120 (by decide) (fun c120 => ?_) (fun c120 => ?_)
        · refine x_aload_n C dX11_judges_128 1 rfl rfl ?_
          refine x_getrN C fl_X11_165 mO.1 rfl (mO.2.2 29 _ rfl).1 dX11_judges_129 ?_
          refine x_iconst (v := nI 1) C dX11_judges_132 (by decide +kernel) ?_
          refine x_zaldN C (mO.2.2 29 _ rfl).2.1 (by omega) (by omega) dX11_judges_133 ?_
          refine x_eqi (y := bI (nbt kb 1)) (hj.1 1 (by omega)) ?_
          refine x_goto (tgt := 143) C dX11_judges_134 (by decide) ?_
          refine x_sub (lv' := _) [0, 1, 2, 3] rfl ?_
          exact J143 (nbt kb 1) (by rw [if_pos (by omega)])
        · refine x_iload_n C dX11_judges_123 3 rfl rfl ?_
          refine x_iconst (v := nI 4) C dX11_judges_124 (by decide +kernel) ?_
          refine x_icmp_neN (tgt := 137) C (by omega) (by omega) dX11_judges_125 (by decide) (fun c125 => ?_) (fun c125 => ?_)
          · refine x_aload_n C dX11_judges_137 1 rfl rfl ?_
            refine x_getrN C fl_X11_168 mO.1 rfl (mO.2.2 30 _ rfl).1 dX11_judges_138 ?_
            refine x_iconst (v := nI 1) C dX11_judges_141 (by decide +kernel) ?_
            refine x_zaldN C (mO.2.2 30 _ rfl).2.1 (by omega) (by omega) dX11_judges_142 ?_
            refine x_eqi (y := bI (nbt kb (2 + 1))) (hj.2.1 1 (by omega)) ?_
            refine x_sub (lv' := _) [0, 1, 2, 3] rfl ?_
            exact J143 (nbt kb (2 + 1)) (by rw [if_neg (by omega)])
          · refine x_aload_n C dX11_judges_128 1 rfl rfl ?_
            refine x_getrN C fl_X11_165 mO.1 rfl (mO.2.2 29 _ rfl).1 dX11_judges_129 ?_
            refine x_iconst (v := nI 1) C dX11_judges_132 (by decide +kernel) ?_
            refine x_zaldN C (mO.2.2 29 _ rfl).2.1 (by omega) (by omega) dX11_judges_133 ?_
            refine x_eqi (y := bI (nbt kb 1)) (hj.1 1 (by omega)) ?_
            refine x_goto (tgt := 143) C dX11_judges_134 (by decide) ?_
            refine x_sub (lv' := _) [0, 1, 2, 3] rfl ?_
            exact J143 (nbt kb 1) (by rw [if_pos (by omega)])
      refine x_iload_n C dX11_judges_92 2 rfl rfl ?_
      refine x_iconst (v := nI 2) C dX11_judges_93 (by decide +kernel) ?_
      refine x_icmp_eqN (tgt := 102) C (by omega) (by omega) dX11_judges_94 (by decide) (fun c94 => ?_) (fun c94 => ?_)
      · refine x_aload_n C dX11_judges_102 0 rfl rfl ?_
        refine x_getrN C fl_X11_165 mO.1 rfl (mO.2.2 29 _ rfl).1 dX11_judges_103 ?_
        refine x_iconst (v := nI 0) C dX11_judges_106 (by decide +kernel) ?_
        refine x_zaldN C (mO.2.2 29 _ rfl).2.1 (by omega) (by omega) dX11_judges_107 ?_
        refine x_eqi (y := bI (nbt kb 0)) (hj.1 0 (by omega)) ?_
        refine x_goto (tgt := 117) C dX11_judges_108 (by decide) ?_
        refine x_sub (lv' := _) [0, 1, 2] rfl ?_
        exact J117 (nbt kb 0) (by rw [if_pos (by omega)])
      · refine x_iload_n C dX11_judges_97 2 rfl rfl ?_
        refine x_iconst (v := nI 3) C dX11_judges_98 (by decide +kernel) ?_
        refine x_icmp_neN (tgt := 111) C (by omega) (by omega) dX11_judges_99 (by decide) (fun c99 => ?_) (fun c99 => ?_)
        · refine x_aload_n C dX11_judges_111 0 rfl rfl ?_
          refine x_getrN C fl_X11_168 mO.1 rfl (mO.2.2 30 _ rfl).1 dX11_judges_112 ?_
          refine x_iconst (v := nI 0) C dX11_judges_115 (by decide +kernel) ?_
          refine x_zaldN C (mO.2.2 30 _ rfl).2.1 (by omega) (by omega) dX11_judges_116 ?_
          refine x_eqi (y := bI (nbt kb (2 + 0))) (hj.2.1 0 (by omega)) ?_
          refine x_sub (lv' := _) [0, 1, 2] rfl ?_
          exact J117 (nbt kb (2 + 0)) (by rw [if_neg (by omega)])
        · refine x_aload_n C dX11_judges_102 0 rfl rfl ?_
          refine x_getrN C fl_X11_165 mO.1 rfl (mO.2.2 29 _ rfl).1 dX11_judges_103 ?_
          refine x_iconst (v := nI 0) C dX11_judges_106 (by decide +kernel) ?_
          refine x_zaldN C (mO.2.2 29 _ rfl).2.1 (by omega) (by omega) dX11_judges_107 ?_
          refine x_eqi (y := bI (nbt kb 0)) (hj.1 0 (by omega)) ?_
          refine x_goto (tgt := 117) C dX11_judges_108 (by decide) ?_
          refine x_sub (lv' := _) [0, 1, 2] rfl ?_
          exact J117 (nbt kb 0) (by rw [if_pos (by omega)])
    · have J76 : ∀ (v : Bool), ((F 2 || nbt kb (2 + h)) = v) → hX z 0 0 (T, I, L, R, A) [(0, .ref (A 63)), (1, .int (nI h)), (2, .int (nI t))] 76 [.int (bI v), .int (nI 2), .ref (A 32)] := by
        intro v hv
        refine x_zastN C (mO.2.2 32 _ rfl).2.1 (mO.2.2 32 _ rfl).2.2 (by omega) (by omega) (bI_01 _) dX11_judges_76 (fun I4 eI4 => ?_)
        have j4 := hj.fl (f := 2) (by decide) eI4
        have f4 : fx [29, 30, 31, 32] I I4 := by rw [eI4]; exact (fx.rf).up (by simp)
        refine x_aload_n C dX11_judges_77 0 rfl rfl ?_
        refine x_getrN C fl_X11_168 mO.1 rfl (mO.2.2 30 _ rfl).1 dX11_judges_78 ?_
        refine x_iload_n C dX11_judges_81 1 rfl rfl ?_
        refine x_iconst (v := nI 1) C dX11_judges_82 (by decide +kernel) ?_
        refine x_zastN C (mO.2.2 30 _ rfl).2.1 (mO.2.2 30 _ rfl).2.2 (by omega) (by omega) (by first | exact Or.inl rfl | exact Or.inr rfl | assumption) dX11_judges_83 (fun I5 eI5 => ?_)
        have j5 := j4.s hkb hh eI5
        have f5 : fx [29, 30, 31, 32] I I5 := by rw [eI5]; exact (f4).up (by simp)
        refine x_aload_n C dX11_judges_84 0 rfl rfl ?_
        refine x_iload_n C dX11_judges_85 1 rfl rfl ?_
        refine x_callV C (ok_X11_seals mO h hh (kb ||| 2 ^ (2 + h)) dn _ j5 (or_16 _ hkb _ (by rcases (show h = 0 ∨ h = 1 by omega) with e | e <;> rw [e] <;> decide)) hdn) mv_X11_seals ml_X11_380 mO.1 rfl rfl rfl (Nat.le_of_ble_eq_true rfl) (hrm (rm := { frames := 0, cells := 0, slots := 0, locals := 0 }) hZ ⟨Nat.le_of_ble_eq_true rfl, Nat.le_of_ble_eq_true rfl⟩) (hcs hZ ⟨Nat.le_of_ble_eq_true rfl, Nat.le_of_ble_eq_true rfl⟩) dX11_judges_86 (fun v G' hp => ?_)
        obtain ⟨rfl, K, rfl, kj, kf⟩ := hp
        have fK : fx [29, 30, 31, 32] I K := f5.tr kf (by simp)
        show hX z 0 0 (T, K, L, R, A) [(0, .ref (A 63)), (1, .int (nI h)), (2, .int (nI t))] 89 []
        refine x_goto (tgt := 210) C dX11_judges_89 (by decide) ?_
        exact x_vret C E (Nat.le_of_ble_eq_true rfl) (Nat.le_of_ble_eq_true rfl) dX11_judges_210 (⟨rfl, K, rfl, jd_s (by omega) hv kj, fK⟩)
      refine x_aload_n C dX11_judges_48 0 rfl rfl ?_
      refine x_getrN C fl_X11_174 mO.1 rfl (mO.2.2 32 _ rfl).1 dX11_judges_49 ?_
      refine x_iconst (v := nI 2) C dX11_judges_52 (by decide +kernel) ?_
      refine x_aload_n C dX11_judges_53 0 rfl rfl ?_
      refine x_getrN C fl_X11_174 mO.1 rfl (mO.2.2 32 _ rfl).1 dX11_judges_54 ?_
      refine x_iconst (v := nI 2) C dX11_judges_57 (by decide +kernel) ?_
      refine x_zaldN C (mO.2.2 32 _ rfl).2.1 (by omega) (by omega) dX11_judges_58 ?_
      refine x_eqi (y := bI (F 2)) (hj.2.2.2 2 (by decide) (by decide)) ?_
      refine x_if_ne (tgt := 71) C dX11_judges_59 (by decide) (fun c59 => ?_) (fun c59 => ?_)
      · refine x_iconst (v := nI 1) C dX11_judges_71 (by decide +kernel) ?_
        refine x_goto (tgt := 76) C dX11_judges_72 (by decide) ?_
        refine x_sub (lv' := _) [0, 1, 2] rfl ?_
        exact J76 true (by first | (rw [bI_T c59]; rfl) | (rw [bI_F c59, bI_T c68]; rfl) | (rw [bI_F c59, bI_F c68]; rfl))
      · refine x_aload_n C dX11_judges_62 0 rfl rfl ?_
        refine x_getrN C fl_X11_168 mO.1 rfl (mO.2.2 30 _ rfl).1 dX11_judges_63 ?_
        refine x_iload_n C dX11_judges_66 1 rfl rfl ?_
        refine x_zaldN C (mO.2.2 30 _ rfl).2.1 (by omega) (by omega) dX11_judges_67 ?_
        refine x_eqi (y := bI (nbt kb (2 + h))) (hj.2.1 h (by omega)) ?_
        refine x_if_eq (tgt := 75) C dX11_judges_68 (by decide) (fun c68 => ?_) (fun c68 => ?_)
        · refine x_iconst (v := nI 0) C dX11_judges_75 (by decide +kernel) ?_
          refine x_sub (lv' := _) [0, 1, 2] rfl ?_
          exact J76 false (by first | (rw [bI_T c59]; rfl) | (rw [bI_F c59, bI_T c68]; rfl) | (rw [bI_F c59, bI_F c68]; rfl))
        · refine x_iconst (v := nI 1) C dX11_judges_71 (by decide +kernel) ?_
          refine x_goto (tgt := 76) C dX11_judges_72 (by decide) ?_
          refine x_sub (lv' := _) [0, 1, 2] rfl ?_
          exact J76 true (by first | (rw [bI_T c59]; rfl) | (rw [bI_F c59, bI_T c68]; rfl) | (rw [bI_F c59, bI_F c68]; rfl))
  · have J32 : ∀ (v : Bool), ((F 2 || nbt kb h) = v) → hX z 0 0 (T, I, L, R, A) [(0, .ref (A 63)), (1, .int (nI h)), (2, .int (nI t))] 32 [.int (bI v), .int (nI 2), .ref (A 32)] := by
      intro v hv
      refine x_zastN C (mO.2.2 32 _ rfl).2.1 (mO.2.2 32 _ rfl).2.2 (by omega) (by omega) (bI_01 _) dX11_judges_32 (fun I6 eI6 => ?_)
      have j6 := hj.fl (f := 2) (by decide) eI6
      have f6 : fx [29, 30, 31, 32] I I6 := by rw [eI6]; exact (fx.rf).up (by simp)
      refine x_aload_n C dX11_judges_33 0 rfl rfl ?_
      refine x_getrN C fl_X11_165 mO.1 rfl (mO.2.2 29 _ rfl).1 dX11_judges_34 ?_
      refine x_iload_n C dX11_judges_37 1 rfl rfl ?_
      refine x_iconst (v := nI 1) C dX11_judges_38 (by decide +kernel) ?_
      refine x_zastN C (mO.2.2 29 _ rfl).2.1 (mO.2.2 29 _ rfl).2.2 (by omega) (by omega) (by first | exact Or.inl rfl | exact Or.inr rfl | assumption) dX11_judges_39 (fun I7 eI7 => ?_)
      have j7 := j6.e hkb hh eI7
      have f7 : fx [29, 30, 31, 32] I I7 := by rw [eI7]; exact (f6).up (by simp)
      refine x_goto (tgt := 210) C dX11_judges_40 (by decide) ?_
      exact x_vret C E (Nat.le_of_ble_eq_true rfl) (Nat.le_of_ble_eq_true rfl) dX11_judges_210 (⟨rfl, _, rfl, (by first | exact jd_e (by omega) hv j7 | exact jd_d (by omega) hkb ht hx hy hv hv4 j7), f7⟩)
    refine x_aload_n C dX11_judges_4 0 rfl rfl ?_
    refine x_getrN C fl_X11_174 mO.1 rfl (mO.2.2 32 _ rfl).1 dX11_judges_5 ?_
    refine x_iconst (v := nI 2) C dX11_judges_8 (by decide +kernel) ?_
    refine x_aload_n C dX11_judges_9 0 rfl rfl ?_
    refine x_getrN C fl_X11_174 mO.1 rfl (mO.2.2 32 _ rfl).1 dX11_judges_10 ?_
    refine x_iconst (v := nI 2) C dX11_judges_13 (by decide +kernel) ?_
    refine x_zaldN C (mO.2.2 32 _ rfl).2.1 (by omega) (by omega) dX11_judges_14 ?_
    refine x_eqi (y := bI (F 2)) (hj.2.2.2 2 (by decide) (by decide)) ?_
    refine x_if_ne (tgt := 27) C dX11_judges_15 (by decide) (fun c15 => ?_) (fun c15 => ?_)
    · refine x_iconst (v := nI 1) C dX11_judges_27 (by decide +kernel) ?_
      refine x_goto (tgt := 32) C dX11_judges_28 (by decide) ?_
      refine x_sub (lv' := _) [0, 1, 2] rfl ?_
      exact J32 true (by first | (rw [bI_T c15]; rfl) | (rw [bI_F c15, bI_T c24]; rfl) | (rw [bI_F c15, bI_F c24]; rfl))
    · refine x_aload_n C dX11_judges_18 0 rfl rfl ?_
      refine x_getrN C fl_X11_165 mO.1 rfl (mO.2.2 29 _ rfl).1 dX11_judges_19 ?_
      refine x_iload_n C dX11_judges_22 1 rfl rfl ?_
      refine x_zaldN C (mO.2.2 29 _ rfl).2.1 (by omega) (by omega) dX11_judges_23 ?_
      refine x_eqi (y := bI (nbt kb h)) (hj.1 h (by omega)) ?_
      refine x_if_eq (tgt := 31) C dX11_judges_24 (by decide) (fun c24 => ?_) (fun c24 => ?_)
      · refine x_iconst (v := nI 0) C dX11_judges_31 (by decide +kernel) ?_
        refine x_sub (lv' := _) [0, 1, 2] rfl ?_
        exact J32 false (by first | (rw [bI_T c15]; rfl) | (rw [bI_F c15, bI_T c24]; rfl) | (rw [bI_F c15, bI_F c24]; rfl))
      · refine x_iconst (v := nI 1) C dX11_judges_27 (by decide +kernel) ?_
        refine x_goto (tgt := 32) C dX11_judges_28 (by decide) ?_
        refine x_sub (lv' := _) [0, 1, 2] rfl ?_
        exact J32 true (by first | (rw [bI_T c15]; rfl) | (rw [bI_F c15, bI_T c24]; rfl) | (rw [bI_F c15, bI_F c24]; rfl))

