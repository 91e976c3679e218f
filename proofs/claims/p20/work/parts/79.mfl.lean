theorem jM0 {I J : Nat → Nat → Int32} {kn : Nat → Bool} {ms : Nat} {sz : Nat → Nat} {tk : Nat → Nat → Nat} {v : Bool} (he : ∀ x, x < 2 → I 29 x = bI false ∧ I 30 x = bI (kn x)) (hz : ∀ t, t < 6 → I 31 t = bI false ∧ I 32 t = bI false) (hv : decide (ms = 0) = v) (e : J = va_up I 32 (upd (I 32) 1 (bI v))) : jM J (mgS kn sz tk 0).2.1 (mgS kn sz tk 0).2.2 (fmM kn ms sz tk 0) := by
  have hb : ∀ a b : Bool, ∀ i, i < 4 → nbt ((if a then 4 else 0) ||| (if b then 8 else 0)) i = (if i = 2 then a else if i = 3 then b else false) := by decide +kernel
  refine ⟨fun x hx => ?_, fun x hx => ?_, fun t h1 h2 => ?_, fun f h1 h2 => ?_⟩
  · rw [e, va_up_other _ _ (by decide), (he x hx).1]
    show bI false = bI (nbt ((if kn 0 then 4 else 0) ||| (if kn 1 then 8 else 0)) x)
    rw [hb _ _ x (by omega), if_neg (by omega), if_neg (by omega)]
  · rw [e, va_up_other _ _ (by decide), (he x hx).2]
    show bI (kn x) = bI (nbt ((if kn 0 then 4 else 0) ||| (if kn 1 then 8 else 0)) (2 + x))
    rw [hb _ _ (2 + x) (by omega)]
    rcases (show x = 0 ∨ x = 1 by omega) with rfl | rfl <;> rfl
  · rw [e, va_up_other _ _ (by decide), (hz t h2).1]
    show bI false = bI (nbt 0 t)
    have : nbt 0 t = false := by unfold nbt; simp
    rw [this]
  · rw [e, va_up_same]
    unfold upd
    show _ = bI (if f = 1 then decide (ms = 0) else false)
    by_cases hf : f = 1
    · rw [if_pos hf, if_pos hf, hv]
    · rw [if_neg hf, if_neg hf]; exact (hz f h2).2
theorem fo_e {J A B : Nat → Nat → Int32} {kn : Nat → Bool} {c x : Nat} (he : ∀ x, x < c → J 29 x = bI false ∧ J 30 x = bI (kn x)) (e1 : A = va_up J 29 (upd (J 29) c (nI 0))) (e2 : B = va_up A 30 (upd (A 30) c (bI (kn c)))) (hx : x < c + 1) : B 29 x = bI false ∧ B 30 x = bI (kn x) := by
  rw [e2, va_up_other _ _ (by decide), va_up_same, e1, va_up_same, va_up_other _ _ (by decide)]
  unfold upd
  by_cases hq : x = c
  · rw [if_pos hq, if_pos hq, hq]; exact ⟨rfl, rfl⟩
  · rw [if_neg hq, if_neg hq]; exact he x (by omega)
theorem fo_z {J A B : Nat → Nat → Int32} {k t : Nat} (hz : ∀ t, t < k → J 31 t = bI false ∧ J 32 t = bI false) (e1 : A = va_up J 31 (upd (J 31) k (nI 0))) (e2 : B = va_up A 32 (upd (A 32) k (nI 0))) (ht : t < k + 1) : B 31 t = bI false ∧ B 32 t = bI false := by
  rw [e2, va_up_other _ _ (by decide), va_up_same, e1, va_up_same, va_up_other _ _ (by decide)]
  unfold upd
  by_cases hq : t = k
  · rw [if_pos hq, if_pos hq]; exact ⟨rfl, rfl⟩
  · rw [if_neg hq, if_neg hq]; exact hz t (by omega)
set_option maxHeartbeats 4000000 in
set_option maxRecDepth 100000 in
theorem ok_X11_faultOf {l : Launch} {a0 : Nat} {D : va_G} {sa : Nat → Nat} {T : Nat → Option hKd} {I : Nat → Nat → Int32} {L : Nat → Nat → Int64} {R : Nat → Nat → Option Nat} {A : Nat → Nat} (mO : isM T R A a0) (p : Nat) (hp8 : p < 8) (kn : Nat → Bool) (ms : Nat) (sz : Nat → Nat) (tk : Nat → Nat → Nat) (hp : mdP I p kn ms sz tk)  : hM l a0 D sa yX11_faultOf cX11_faultOf 5 (some .int) { frames := 2, cells := 0, slots := 0, locals := 46 } [.ref (A 63), .int (nI p)] (T, I, L, R, A) (fun r G' => (∃ f, r = some (.int (nI f)) ∧ isF kn ms sz tk f ∧ f ≤ 5) ∧ ∃ I', G' = (T, I', L, R, A) ∧ fx [29, 30, 31, 32] I I') := by
  refine hM.of (by decide +kernel) (Nat.le_of_ble_eq_true rfl) ?_
  intro z hl h0 hD hS hN C E
  subst hl; subst h0; subst hD; subst hS
  have C : hC z RX11 cX11_faultOf := C
  have hZ := E.2.2.2.1
  show hX z 0 0 (T, I, L, R, A) [(0, .ref (A 63)), (1, .int (nI p))] 0 []
  have hms := hp.2.2.2.2.1
  refine x_iconst (v := nI 0) C dX11_faultOf_0 (by decide +kernel) ?_
  refine x_istore_n (lv' := [(2, .int (nI 0)), (0, .ref (A 63)), (1, .int (nI p))]) C dX11_faultOf_1 rfl (Nat.lt_of_lt_of_eq (by decide) hN.symm) rfl ?_
  have L2 : ∀ (fuel_ : Nat) (k : Nat) (J : Nat → Nat → Int32), 6 - k < fuel_ → (k ≤ 6) → (∀ t, t < k → J 31 t = bI false ∧ J 32 t = bI false) → (fx [29, 30, 31, 32] I J) → hX z 0 0 (T, J, L, R, A) [(2, .int (nI k)), (0, .ref (A 63)), (1, .int (nI p))] 2 [] := by
    intro fuel_
    induction fuel_ with
    | zero => intro k J hmz; exact absurd hmz (Nat.not_lt_zero _)
    | succ fuel_ ih2 =>
      intro k J hmz hk hz hf
      refine x_iload_n C dX11_faultOf_2 0 rfl rfl ?_
      refine x_bipush (v := nI 6) C dX11_faultOf_3 (by decide +kernel) ?_
      refine x_icmp_geN (tgt := 28) C (by first | omega | (have h1_ := hp.2.2.2.2.2.1 m; omega) | (have h1_ := hp.2.2.2.2.2.1 m; have h2_ := hp.2.2.2.2.2.2 m k; omega)) (by first | omega | (have h1_ := hp.2.2.2.2.2.1 m; omega) | (have h1_ := hp.2.2.2.2.2.1 m; have h2_ := hp.2.2.2.2.2.2 m k; omega)) dX11_faultOf_5 (by decide) (fun c5 => ?_) (fun c5 => ?_)
      · refine x_iconst (v := nI 0) C dX11_faultOf_28 (by decide +kernel) ?_
        refine x_istore_n (lv' := [(2, .int (nI 0)), (0, .ref (A 63)), (1, .int (nI p))]) C dX11_faultOf_29 rfl (Nat.lt_of_lt_of_eq (by decide) hN.symm) rfl ?_
        have L30 : ∀ (fuel_ : Nat) (c : Nat) (J2 : Nat → Nat → Int32), 2 - c < fuel_ → (c ≤ 2) → (∀ x, x < c → J2 29 x = bI false ∧ J2 30 x = bI (kn x)) → (∀ t, t < 6 → J2 31 t = bI false ∧ J2 32 t = bI false) → (fx [29, 30, 31, 32] I J2) → hX z 0 0 (T, J2, L, R, A) [(2, .int (nI c)), (0, .ref (A 63)), (1, .int (nI p))] 30 [] := by
          intro fuel_
          induction fuel_ with
          | zero => intro c J2 hmz; exact absurd hmz (Nat.not_lt_zero _)
          | succ fuel_ ih30 =>
            intro c J2 hmz hc he hz2 hf
            refine x_iload_n C dX11_faultOf_30 0 rfl rfl ?_
            refine x_iconst (v := nI 2) C dX11_faultOf_31 (by decide +kernel) ?_
            refine x_icmp_geN (tgt := 64) C (by first | omega | (have h1_ := hp.2.2.2.2.2.1 m; omega) | (have h1_ := hp.2.2.2.2.2.1 m; have h2_ := hp.2.2.2.2.2.2 m k; omega)) (by first | omega | (have h1_ := hp.2.2.2.2.2.1 m; omega) | (have h1_ := hp.2.2.2.2.2.1 m; have h2_ := hp.2.2.2.2.2.2 m k; omega)) dX11_faultOf_32 (by decide) (fun c32 => ?_) (fun c32 => ?_)
            · have J83 : ∀ (v : Bool), (decide (ms = 0) = v) → hX z 0 0 (T, J2, L, R, A) [(2, .int (nI c)), (0, .ref (A 63)), (1, .int (nI p))] 83 [.int (bI v), .int (nI 1), .ref (A 32)] := by
                intro v hv
                refine x_zastN C (mO.2.2 32 _ rfl).2.1 (mO.2.2 32 _ rfl).2.2 (by first | omega | (have h1_ := hp.2.2.2.2.2.1 m; omega) | (have h1_ := hp.2.2.2.2.2.1 m; have h2_ := hp.2.2.2.2.2.2 m k; omega)) (by omega) (bI_01 _) dX11_faultOf_83 (fun I1 eI1 => ?_)
                have f_I1 : fx [29, 30, 31, 32] I I1 := by rw [eI1]; exact (hf).up (by simp)
                refine x_iconst (v := nI 0) C dX11_faultOf_84 (by decide +kernel) ?_
                refine x_istore_n (lv' := [(2, .int (nI 0)), (0, .ref (A 63)), (1, .int (nI p))]) C dX11_faultOf_85 rfl (Nat.lt_of_lt_of_eq (by decide) hN.symm) rfl ?_
                have L86 : ∀ (fuel_ : Nat) (m : Nat) (J3 : Nat → Nat → Int32), ms - m < fuel_ → (m ≤ ms) → (jM J3 (mgS kn sz tk m).2.1 (mgS kn sz tk m).2.2 (fmM kn ms sz tk m)) → (fx [29, 30, 31, 32] I J3) → hX z 0 0 (T, J3, L, R, A) [(2, .int (nI m)), (0, .ref (A 63)), (1, .int (nI p))] 86 [] := by
                  intro fuel_
                  induction fuel_ with
                  | zero => intro m J3 hmz; exact absurd hmz (Nat.not_lt_zero _)
                  | succ fuel_ ih86 =>
                    intro m J3 hmz hm hj hf
                    refine x_iload_n C dX11_faultOf_86 0 rfl rfl ?_
                    refine x_aload_n C dX11_faultOf_87 1 rfl rfl ?_
                    refine x_getrN C fl_X11_156 mO.1 rfl (mO.2.2 26 _ rfl).1 dX11_faultOf_88 ?_
                    refine x_iload_n C dX11_faultOf_91 2 rfl rfl ?_
                    refine x_ialdN C (mO.2.2 26 _ rfl).2.1 (by first | omega | (have h1_ := hp.2.2.2.2.2.1 m; omega) | (have h1_ := hp.2.2.2.2.2.1 m; have h2_ := hp.2.2.2.2.2.2 m k; omega)) (by omega) dX11_faultOf_92 ?_
                    refine x_eqi (y := nI ms) (by rw [hf 26 (by decide)]; exact hp.2.1) ?_
                    refine x_icmp_geN (tgt := 183) C (by first | omega | (have h1_ := hp.2.2.2.2.2.1 m; omega) | (have h1_ := hp.2.2.2.2.2.1 m; have h2_ := hp.2.2.2.2.2.2 m k; omega)) (by first | omega | (have h1_ := hp.2.2.2.2.2.1 m; omega) | (have h1_ := hp.2.2.2.2.2.1 m; have h2_ := hp.2.2.2.2.2.2 m k; omega)) dX11_faultOf_93 (by decide) (fun c93 => ?_) (fun c93 => ?_)
                    · have em : m = ms := by omega
                      rw [em] at hj
                      refine x_iconst (v := nI 1) C dX11_faultOf_183 (by decide +kernel) ?_
                      refine x_istore_n (lv' := [(2, .int (nI 1)), (0, .ref (A 63)), (1, .int (nI p))]) C dX11_faultOf_184 rfl (Nat.lt_of_lt_of_eq (by decide) hN.symm) rfl ?_
                      have L185 : ∀ (fuel_ : Nat) (f : Nat), 6 - f < fuel_ → (1 ≤ f ∧ f ≤ 6) → (∀ g, 1 ≤ g → g < f → fmM kn ms sz tk ms g = false) → hX z 0 0 (T, J3, L, R, A) [(2, .int (nI f)), (0, .ref (A 63)), (1, .int (nI p))] 185 [] := by
                        intro fuel_
                        induction fuel_ with
                        | zero => intro f hmz; exact absurd hmz (Nat.not_lt_zero _)
                        | succ fuel_ ih185 =>
                          intro f hmz hf1 hn
                          refine x_iload_n C dX11_faultOf_185 0 rfl rfl ?_
                          refine x_bipush (v := nI 6) C dX11_faultOf_186 (by decide +kernel) ?_
                          refine x_icmp_geN (tgt := 208) C (by first | omega | (have h1_ := hp.2.2.2.2.2.1 m; omega) | (have h1_ := hp.2.2.2.2.2.1 m; have h2_ := hp.2.2.2.2.2.2 m k; omega)) (by first | omega | (have h1_ := hp.2.2.2.2.2.1 m; omega) | (have h1_ := hp.2.2.2.2.2.1 m; have h2_ := hp.2.2.2.2.2.2 m k; omega)) dX11_faultOf_188 (by decide) (fun c188 => ?_) (fun c188 => ?_)
                          · refine x_iconst (v := nI 0) C dX11_faultOf_208 (by decide +kernel) ?_
                            exact x_iret C E (Nat.le_of_ble_eq_true rfl) (Nat.le_of_ble_eq_true rfl) dX11_faultOf_209 (⟨⟨0, rfl, isF_of hp.2.2.2.2.2.2 (Or.inl ⟨rfl, fun g g1 g2 => hn g g1 (by omega)⟩), by decide⟩, J3, rfl, hf⟩)
                          · refine x_aload_n C dX11_faultOf_191 1 rfl rfl ?_
                            refine x_getrN C fl_X11_174 mO.1 rfl (mO.2.2 32 _ rfl).1 dX11_faultOf_192 ?_
                            refine x_iload_n C dX11_faultOf_195 0 rfl rfl ?_
                            refine x_zaldN C (mO.2.2 32 _ rfl).2.1 (by first | omega | (have h1_ := hp.2.2.2.2.2.1 m; omega) | (have h1_ := hp.2.2.2.2.2.1 m; have h2_ := hp.2.2.2.2.2.2 m k; omega)) (by omega) dX11_faultOf_196 ?_
                            refine x_eqi (y := bI (fmM kn ms sz tk ms f)) (hj.2.2.2 f (by omega) (by omega)) ?_
                            refine x_if_eq (tgt := 202) C dX11_faultOf_197 (by decide) (fun c197 => ?_) (fun c197 => ?_)
                            · refine x_iinc (v := nI (f + 1)) (lv' := [(2, .int (nI (f + 1))), (0, .ref (A 63)), (1, .int (nI p))]) C dX11_faultOf_202 0 rfl (nI_inc 1) (Nat.lt_of_lt_of_eq (by decide) hN.symm) rfl ?_
                              refine x_goto (tgt := 185) C dX11_faultOf_205 (by decide) ?_
                              refine x_sub (lv' := _) [0, 1, 2] rfl ?_
                              exact ih185 (f + 1) (by omega) (by omega) (fun g g1 g2 => by rcases Nat.lt_or_ge g f with x | x; exact hn g g1 x; rw [show g = f by omega]; exact bI_F c197)
                            · refine x_iload_n C dX11_faultOf_200 0 rfl rfl ?_
                              exact x_iret C E (Nat.le_of_ble_eq_true rfl) (Nat.le_of_ble_eq_true rfl) dX11_faultOf_201 (⟨⟨f, rfl, isF_of hp.2.2.2.2.2.2 (Or.inr ⟨by omega, by omega, bI_T c197, hn⟩), by omega⟩, J3, rfl, hf⟩)
                      refine x_sub (lv' := _) [0, 1, 2] rfl ?_
                      exact L185 _ 1 (Nat.lt_succ_self _) (by omega) (fun g g1 g2 => by omega)
                    · refine x_bipush (v := nI 6) C dX11_faultOf_96 (by decide +kernel) ?_
                      refine x_iload_n C dX11_faultOf_98 2 rfl rfl ?_
                      refine x_imulN C dX11_faultOf_99 ?_
                      refine x_iload_n C dX11_faultOf_100 0 rfl rfl ?_
                      refine x_iaddN C dX11_faultOf_101 ?_
                      refine x_istore_n (lv' := [(3, .int (nI (6 * p + m))), (2, .int (nI m)), (0, .ref (A 63)), (1, .int (nI p))]) C dX11_faultOf_102 rfl (Nat.lt_of_lt_of_eq (by decide) hN.symm) rfl ?_
                      have J131 : ∀ (v1 : Bool), ((fmM kn ms sz tk m 1 || decide (sz m = 0)) = v1) → hX z 0 0 (T, J3, L, R, A) [(3, .int (nI (6 * p + m))), (2, .int (nI m)), (0, .ref (A 63)), (1, .int (nI p))] 131 [.int (bI v1), .int (nI 1), .ref (A 32)] := by
                        intro v1 hv1
                        refine x_zastN C (mO.2.2 32 _ rfl).2.1 (mO.2.2 32 _ rfl).2.2 (by first | omega | (have h1_ := hp.2.2.2.2.2.1 m; omega) | (have h1_ := hp.2.2.2.2.2.1 m; have h2_ := hp.2.2.2.2.2.2 m k; omega)) (by omega) (bI_01 _) dX11_faultOf_131 (fun I2 eI2 => ?_)
                        have f_I2 : fx [29, 30, 31, 32] I I2 := by rw [eI2]; exact (hf).up (by simp)
                        refine x_iconst (v := nI 0) C dX11_faultOf_132 (by decide +kernel) ?_
                        refine x_istore (lv' := [(4, .int (nI 0)), (3, .int (nI (6 * p + m))), (2, .int (nI m)), (0, .ref (A 63)), (1, .int (nI p))]) C dX11_faultOf_133 (Nat.lt_of_lt_of_eq (by decide) hN.symm) rfl ?_
                        have L135 : ∀ (fuel_ : Nat) (k : Nat) (J4 : Nat → Nat → Int32), sz m - k < fuel_ → (k ≤ sz m) → (jM J4 (tkS (m % 2) (tk m) (mgS kn sz tk m) k).2.1 (tkS (m % 2) (tk m) (mgS kn sz tk m) k).2.2 (ftM (m % 2) (tk m) (mgS kn sz tk m) (upN (fmM kn ms sz tk m) 1 (fmM kn ms sz tk m 1 || decide (sz m = 0))) k)) → (fx [29, 30, 31, 32] I J4) → hX z 0 0 (T, J4, L, R, A) [(4, .int (nI k)), (3, .int (nI (6 * p + m))), (2, .int (nI m)), (0, .ref (A 63)), (1, .int (nI p))] 135 [] := by
                          intro fuel_
                          induction fuel_ with
                          | zero => intro k J4 hmz; exact absurd hmz (Nat.not_lt_zero _)
                          | succ fuel_ ih135 =>
                            intro k J4 hmz hk hj hf
                            refine x_iload C dX11_faultOf_135 0 rfl ?_
                            refine x_aload_n C dX11_faultOf_137 3 rfl rfl ?_
                            refine x_getrN C fl_X11_159 mO.1 rfl (mO.2.2 27 _ rfl).1 dX11_faultOf_138 ?_
                            refine x_iload_n C dX11_faultOf_141 1 rfl rfl ?_
                            refine x_ialdN C (mO.2.2 27 _ rfl).2.1 (by first | omega | (have h1_ := hp.2.2.2.2.2.1 m; omega) | (have h1_ := hp.2.2.2.2.2.1 m; have h2_ := hp.2.2.2.2.2.2 m k; omega)) (by omega) dX11_faultOf_142 ?_
                            refine x_eqi (y := nI (sz m)) (by rw [hf 27 (by decide)]; exact hp.2.2.1 m (by omega)) ?_
                            refine x_icmp_geN (tgt := 170) C (by first | omega | (have h1_ := hp.2.2.2.2.2.1 m; omega) | (have h1_ := hp.2.2.2.2.2.1 m; have h2_ := hp.2.2.2.2.2.2 m k; omega)) (by first | omega | (have h1_ := hp.2.2.2.2.2.1 m; omega) | (have h1_ := hp.2.2.2.2.2.1 m; have h2_ := hp.2.2.2.2.2.2 m k; omega)) dX11_faultOf_143 (by decide) (fun c143 => ?_) (fun c143 => ?_)
                            · refine x_aload_n C dX11_faultOf_170 3 rfl rfl ?_
                              refine x_iload_n C dX11_faultOf_171 2 rfl rfl ?_
                              refine x_iconst (v := nI 2) C dX11_faultOf_172 (by decide +kernel) ?_
                              refine x_iremN C (by first | omega | (have h1_ := hp.2.2.2.2.2.1 m; omega) | (have h1_ := hp.2.2.2.2.2.1 m; have h2_ := hp.2.2.2.2.2.2 m k; omega)) (by omega) (by omega) dX11_faultOf_173 ?_
                              refine x_callV C (ok_X11_seals mO (m % 2) (by omega) _ _ _ hj (tkS_ok (by omega) (hp.2.2.2.2.2.2 m) (mgS_ok hp.2.2.2.2.2.2 m) k).2.1 (tkS_ok (by omega) (hp.2.2.2.2.2.2 m) (mgS_ok hp.2.2.2.2.2.2 m) k).2.2) mv_X11_seals ml_X11_380 mO.1 rfl rfl rfl (Nat.le_of_ble_eq_true rfl) (hrm (rm := { frames := 0, cells := 0, slots := 0, locals := 0 }) hZ ⟨Nat.le_of_ble_eq_true rfl, Nat.le_of_ble_eq_true rfl⟩) (hcs hZ ⟨Nat.le_of_ble_eq_true rfl, Nat.le_of_ble_eq_true rfl⟩) dX11_faultOf_174 (fun v G' hp => ?_)
                              obtain ⟨rfl, K, rfl, kj, kf⟩ := hp
                              show hX z 0 0 (T, K, L, R, A) [(4, .int (nI k)), (3, .int (nI (6 * p + m))), (2, .int (nI m)), (0, .ref (A 63)), (1, .int (nI p))] 177 []
                              refine x_iinc (v := nI (m + 1)) (lv' := [(2, .int (nI (m + 1))), (4, .int (nI k)), (3, .int (nI (6 * p + m))), (0, .ref (A 63)), (1, .int (nI p))]) C dX11_faultOf_177 2 rfl (nI_inc 1) (Nat.lt_of_lt_of_eq (by decide) hN.symm) rfl ?_
                              refine x_goto (tgt := 86) C dX11_faultOf_180 (by decide) ?_
                              refine x_sub (lv' := _) [0, 3, 4] rfl ?_
                              exact ih86 (m + 1) K (by omega) (by omega) (by have ek : k = sz m := (by omega); rw [ek] at kj; exact kj) (hf.tr kf (by simp))
                            · refine x_aload_n C dX11_faultOf_146 3 rfl rfl ?_
                              refine x_iload_n C dX11_faultOf_147 2 rfl rfl ?_
                              refine x_iconst (v := nI 2) C dX11_faultOf_148 (by decide +kernel) ?_
                              refine x_iremN C (by first | omega | (have h1_ := hp.2.2.2.2.2.1 m; omega) | (have h1_ := hp.2.2.2.2.2.1 m; have h2_ := hp.2.2.2.2.2.2 m k; omega)) (by omega) (by omega) dX11_faultOf_149 ?_
                              refine x_aload_n C dX11_faultOf_150 3 rfl rfl ?_
                              refine x_getrN C fl_X11_162 mO.1 rfl (mO.2.2 28 _ rfl).1 dX11_faultOf_151 ?_
                              refine x_iconst (v := nI 5) C dX11_faultOf_154 (by decide +kernel) ?_
                              refine x_iload_n C dX11_faultOf_155 1 rfl rfl ?_
                              refine x_imulN C dX11_faultOf_156 ?_
                              refine x_iload C dX11_faultOf_157 0 rfl ?_
                              refine x_iaddN C dX11_faultOf_159 ?_
                              refine x_ialdN C (mO.2.2 28 _ rfl).2.1 (by first | omega | (have h1_ := hp.2.2.2.2.2.1 m; omega) | (have h1_ := hp.2.2.2.2.2.1 m; have h2_ := hp.2.2.2.2.2.2 m k; omega)) (by omega) dX11_faultOf_160 ?_
                              refine x_eqi (y := nI (tk m k)) (by rw [hf 28 (by decide)]; exact hp.2.2.2.1 m (by omega) k (by omega)) ?_
                              refine x_callV C (ok_X11_judges mO (m % 2) (tk m k) (by omega) (hp.2.2.2.2.2.2 m k) _ _ _ hj (tkS_ok (by omega) (hp.2.2.2.2.2.2 m) (mgS_ok hp.2.2.2.2.2.2 m) k).2.1 (tkS_ok (by omega) (hp.2.2.2.2.2.2 m) (mgS_ok hp.2.2.2.2.2.2 m) k).2.2) mv_X11_judges ml_X11_383 mO.1 rfl rfl rfl (Nat.le_of_ble_eq_true rfl) (hrm (rm := { frames := 0, cells := 0, slots := 0, locals := 0 }) hZ ⟨Nat.le_of_ble_eq_true rfl, Nat.le_of_ble_eq_true rfl⟩) (hcs hZ ⟨Nat.le_of_ble_eq_true rfl, Nat.le_of_ble_eq_true rfl⟩) dX11_faultOf_161 (fun v G' hp => ?_)
                              obtain ⟨rfl, K, rfl, kj, kf⟩ := hp
                              show hX z 0 0 (T, K, L, R, A) [(4, .int (nI k)), (3, .int (nI (6 * p + m))), (2, .int (nI m)), (0, .ref (A 63)), (1, .int (nI p))] 164 []
                              refine x_iinc (v := nI (k + 1)) (lv' := [(4, .int (nI (k + 1))), (3, .int (nI (6 * p + m))), (2, .int (nI m)), (0, .ref (A 63)), (1, .int (nI p))]) C dX11_faultOf_164 0 rfl (nI_inc 1) (Nat.lt_of_lt_of_eq (by decide) hN.symm) rfl ?_
                              refine x_goto (tgt := 135) C dX11_faultOf_167 (by decide) ?_
                              refine x_sub (lv' := _) [0, 1, 2, 3, 4] rfl ?_
                              exact ih135 (k + 1) K (by omega) (by omega) kj (hf.tr kf (by simp))
                        refine x_sub (lv' := _) [0, 1, 2, 3, 4] rfl ?_
                        exact L135 _ 0 I2 (Nat.lt_succ_self _) (Nat.zero_le _) (by rw [hv1]; exact hj.fl (f := 1) (by decide) eI2) f_I2
                      refine x_aload_n C dX11_faultOf_103 2 rfl rfl ?_
                      refine x_getrN C fl_X11_174 mO.1 rfl (mO.2.2 32 _ rfl).1 dX11_faultOf_104 ?_
                      refine x_iconst (v := nI 1) C dX11_faultOf_107 (by decide +kernel) ?_
                      refine x_aload_n C dX11_faultOf_108 2 rfl rfl ?_
                      refine x_getrN C fl_X11_174 mO.1 rfl (mO.2.2 32 _ rfl).1 dX11_faultOf_109 ?_
                      refine x_iconst (v := nI 1) C dX11_faultOf_112 (by decide +kernel) ?_
                      refine x_zaldN C (mO.2.2 32 _ rfl).2.1 (by first | omega | (have h1_ := hp.2.2.2.2.2.1 m; omega) | (have h1_ := hp.2.2.2.2.2.1 m; have h2_ := hp.2.2.2.2.2.2 m k; omega)) (by omega) dX11_faultOf_113 ?_
                      refine x_eqi (y := bI (fmM kn ms sz tk m 1)) (hj.2.2.2 1 (by decide) (by decide)) ?_
                      refine x_if_ne (tgt := 126) C dX11_faultOf_114 (by decide) (fun c114 => ?_) (fun c114 => ?_)
                      · refine x_iconst (v := nI 1) C dX11_faultOf_126 (by decide +kernel) ?_
                        refine x_goto (tgt := 131) C dX11_faultOf_127 (by decide) ?_
                        refine x_sub (lv' := _) [0, 1, 2, 3] rfl ?_
                        exact J131 true (by first | (rw [bI_T c114]; rfl) | (rw [bI_F c114, decide_eq_true c123]; rfl) | (rw [bI_F c114, decide_eq_false c123]; rfl))
                      · refine x_aload_n C dX11_faultOf_117 2 rfl rfl ?_
                        refine x_getrN C fl_X11_159 mO.1 rfl (mO.2.2 27 _ rfl).1 dX11_faultOf_118 ?_
                        refine x_iload_n C dX11_faultOf_121 0 rfl rfl ?_
                        refine x_ialdN C (mO.2.2 27 _ rfl).2.1 (by first | omega | (have h1_ := hp.2.2.2.2.2.1 m; omega) | (have h1_ := hp.2.2.2.2.2.1 m; have h2_ := hp.2.2.2.2.2.2 m k; omega)) (by omega) dX11_faultOf_122 ?_
                        refine x_eqi (y := nI (sz m)) (by rw [hf 27 (by decide)]; exact hp.2.2.1 m (by omega)) ?_
                        refine x_if_neN (tgt := 130) C (by first | omega | (have h1_ := hp.2.2.2.2.2.1 m; omega) | (have h1_ := hp.2.2.2.2.2.1 m; have h2_ := hp.2.2.2.2.2.2 m k; omega)) dX11_faultOf_123 (by decide) (fun c123 => ?_) (fun c123 => ?_)
                        · refine x_iconst (v := nI 0) C dX11_faultOf_130 (by decide +kernel) ?_
                          refine x_sub (lv' := _) [0, 1, 2, 3] rfl ?_
                          exact J131 false (by first | (rw [bI_T c114]; rfl) | (rw [bI_F c114, decide_eq_true c123]; rfl) | (rw [bI_F c114, decide_eq_false c123]; rfl))
                        · refine x_iconst (v := nI 1) C dX11_faultOf_126 (by decide +kernel) ?_
                          refine x_goto (tgt := 131) C dX11_faultOf_127 (by decide) ?_
                          refine x_sub (lv' := _) [0, 1, 2, 3] rfl ?_
                          exact J131 true (by first | (rw [bI_T c114]; rfl) | (rw [bI_F c114, decide_eq_true c123]; rfl) | (rw [bI_F c114, decide_eq_false c123]; rfl))
                refine x_sub (lv' := _) [0, 1, 2] rfl ?_
                exact L86 _ 0 I1 (Nat.lt_succ_self _) (by omega) (jM0 (fun x hx => he x (by omega)) hz2 hv eI1) f_I1
              refine x_aload_n C dX11_faultOf_64 1 rfl rfl ?_
              refine x_getrN C fl_X11_174 mO.1 rfl (mO.2.2 32 _ rfl).1 dX11_faultOf_65 ?_
              refine x_iconst (v := nI 1) C dX11_faultOf_68 (by decide +kernel) ?_
              refine x_aload_n C dX11_faultOf_69 1 rfl rfl ?_
              refine x_getrN C fl_X11_156 mO.1 rfl (mO.2.2 26 _ rfl).1 dX11_faultOf_70 ?_
              refine x_iload_n C dX11_faultOf_73 2 rfl rfl ?_
              refine x_ialdN C (mO.2.2 26 _ rfl).2.1 (by first | omega | (have h1_ := hp.2.2.2.2.2.1 m; omega) | (have h1_ := hp.2.2.2.2.2.1 m; have h2_ := hp.2.2.2.2.2.2 m k; omega)) (by omega) dX11_faultOf_74 ?_
              refine x_eqi (y := nI ms) (by rw [hf 26 (by decide)]; exact hp.2.1) ?_
              refine x_if_neN (tgt := 82) C (by first | omega | (have h1_ := hp.2.2.2.2.2.1 m; omega) | (have h1_ := hp.2.2.2.2.2.1 m; have h2_ := hp.2.2.2.2.2.2 m k; omega)) dX11_faultOf_75 (by decide) (fun c75 => ?_) (fun c75 => ?_)
              · refine x_iconst (v := nI 0) C dX11_faultOf_82 (by decide +kernel) ?_
                refine x_sub (lv' := _) [0, 1, 2] rfl ?_
                exact J83 false (decide_eq_false c75)
              · refine x_iconst (v := nI 1) C dX11_faultOf_78 (by decide +kernel) ?_
                refine x_goto (tgt := 83) C dX11_faultOf_79 (by decide) ?_
                refine x_sub (lv' := _) [0, 1, 2] rfl ?_
                exact J83 true (decide_eq_true c75)
            · refine x_aload_n C dX11_faultOf_35 1 rfl rfl ?_
              refine x_getrN C fl_X11_165 mO.1 rfl (mO.2.2 29 _ rfl).1 dX11_faultOf_36 ?_
              refine x_iload_n C dX11_faultOf_39 0 rfl rfl ?_
              refine x_iconst (v := nI 0) C dX11_faultOf_40 (by decide +kernel) ?_
              refine x_zastN C (mO.2.2 29 _ rfl).2.1 (mO.2.2 29 _ rfl).2.2 (by first | omega | (have h1_ := hp.2.2.2.2.2.1 m; omega) | (have h1_ := hp.2.2.2.2.2.1 m; have h2_ := hp.2.2.2.2.2.2 m k; omega)) (by omega) (by first | exact Or.inl rfl | exact Or.inr rfl | assumption) dX11_faultOf_41 (fun I3 eI3 => ?_)
              have f_I3 : fx [29, 30, 31, 32] I I3 := by rw [eI3]; exact (hf).up (by simp)
              refine x_aload_n C dX11_faultOf_42 1 rfl rfl ?_
              refine x_getrN C fl_X11_168 mO.1 rfl (mO.2.2 30 _ rfl).1 dX11_faultOf_43 ?_
              refine x_iload_n C dX11_faultOf_46 0 rfl rfl ?_
              refine x_aload_n C dX11_faultOf_47 1 rfl rfl ?_
              refine x_getrN C fl_X11_152 mO.1 rfl (mO.2.2 25 _ rfl).1 dX11_faultOf_48 ?_
              refine x_iconst (v := nI 2) C dX11_faultOf_51 (by decide +kernel) ?_
              refine x_iload_n C dX11_faultOf_52 2 rfl rfl ?_
              refine x_imulN C dX11_faultOf_53 ?_
              refine x_iload_n C dX11_faultOf_54 0 rfl rfl ?_
              refine x_iaddN C dX11_faultOf_55 ?_
              refine x_zaldN C (mO.2.2 25 _ rfl).2.1 (by first | omega | (have h1_ := hp.2.2.2.2.2.1 m; omega) | (have h1_ := hp.2.2.2.2.2.1 m; have h2_ := hp.2.2.2.2.2.2 m k; omega)) (by omega) dX11_faultOf_56 ?_
              refine x_eqi (y := bI (kn c)) (by rw [f_I3 25 (by decide)]; exact hp.1 c (by omega)) ?_
              refine x_zastN C (mO.2.2 30 _ rfl).2.1 (mO.2.2 30 _ rfl).2.2 (by first | omega | (have h1_ := hp.2.2.2.2.2.1 m; omega) | (have h1_ := hp.2.2.2.2.2.1 m; have h2_ := hp.2.2.2.2.2.2 m k; omega)) (by omega) (bI_01 _) dX11_faultOf_57 (fun I4 eI4 => ?_)
              have f_I4 : fx [29, 30, 31, 32] I I4 := by rw [eI4]; exact (f_I3).up (by simp)
              refine x_iinc (v := nI (c + 1)) (lv' := [(2, .int (nI (c + 1))), (0, .ref (A 63)), (1, .int (nI p))]) C dX11_faultOf_58 0 rfl (nI_inc 1) (Nat.lt_of_lt_of_eq (by decide) hN.symm) rfl ?_
              refine x_goto (tgt := 30) C dX11_faultOf_61 (by decide) ?_
              refine x_sub (lv' := _) [0, 1, 2] rfl ?_
              exact ih30 (c + 1) I4 (by omega) (by omega) (fun x hx => fo_e he eI3 eI4 hx) (fun t ht => by rw [eI4, va_up_other _ _ (by decide), va_up_other _ _ (by decide), eI3, va_up_other _ _ (by decide), va_up_other _ _ (by decide)]; exact hz2 t ht) f_I4
        refine x_sub (lv' := _) [0, 1, 2] rfl ?_
        exact L30 _ 0 J (Nat.lt_succ_self _) (by omega) (fun t ht => absurd ht (Nat.not_lt_zero t)) (fun t ht => hz t (by omega)) hf
      · refine x_aload_n C dX11_faultOf_8 1 rfl rfl ?_
        refine x_getrN C fl_X11_171 mO.1 rfl (mO.2.2 31 _ rfl).1 dX11_faultOf_9 ?_
        refine x_iload_n C dX11_faultOf_12 0 rfl rfl ?_
        refine x_iconst (v := nI 0) C dX11_faultOf_13 (by decide +kernel) ?_
        refine x_zastN C (mO.2.2 31 _ rfl).2.1 (mO.2.2 31 _ rfl).2.2 (by first | omega | (have h1_ := hp.2.2.2.2.2.1 m; omega) | (have h1_ := hp.2.2.2.2.2.1 m; have h2_ := hp.2.2.2.2.2.2 m k; omega)) (by omega) (by first | exact Or.inl rfl | exact Or.inr rfl | assumption) dX11_faultOf_14 (fun I5 eI5 => ?_)
        have f_I5 : fx [29, 30, 31, 32] I I5 := by rw [eI5]; exact (hf).up (by simp)
        refine x_aload_n C dX11_faultOf_15 1 rfl rfl ?_
        refine x_getrN C fl_X11_174 mO.1 rfl (mO.2.2 32 _ rfl).1 dX11_faultOf_16 ?_
        refine x_iload_n C dX11_faultOf_19 0 rfl rfl ?_
        refine x_iconst (v := nI 0) C dX11_faultOf_20 (by decide +kernel) ?_
        refine x_zastN C (mO.2.2 32 _ rfl).2.1 (mO.2.2 32 _ rfl).2.2 (by first | omega | (have h1_ := hp.2.2.2.2.2.1 m; omega) | (have h1_ := hp.2.2.2.2.2.1 m; have h2_ := hp.2.2.2.2.2.2 m k; omega)) (by omega) (by first | exact Or.inl rfl | exact Or.inr rfl | assumption) dX11_faultOf_21 (fun I6 eI6 => ?_)
        have f_I6 : fx [29, 30, 31, 32] I I6 := by rw [eI6]; exact (f_I5).up (by simp)
        refine x_iinc (v := nI (k + 1)) (lv' := [(2, .int (nI (k + 1))), (0, .ref (A 63)), (1, .int (nI p))]) C dX11_faultOf_22 0 rfl (nI_inc 1) (Nat.lt_of_lt_of_eq (by decide) hN.symm) rfl ?_
        refine x_goto (tgt := 2) C dX11_faultOf_25 (by decide) ?_
        refine x_sub (lv' := _) [0, 1, 2] rfl ?_
        exact ih2 (k + 1) I6 (by omega) (by omega) (fun t ht => fo_z hz eI5 eI6 ht) f_I6
  refine x_sub (lv' := _) [0, 1, 2] rfl ?_
  exact L2 _ 0 I (Nat.lt_succ_self _) (by omega) (fun t ht => absurd ht (Nat.not_lt_zero t)) fx.rf

set_option maxHeartbeats 4000000 in
set_option maxRecDepth 100000 in
theorem ok_X11_sendsS {l : Launch} {a0 : Nat} {D : va_G} {sa : Nat → Nat} {T : Nat → Option hKd} {I : Nat → Nat → Int32} {L : Nat → Nat → Int64} {R : Nat → Nat → Option Nat} {A : Nat → Nat} (mO : isM T R A a0) (p : Nat) (hp8 : p < 8) (kn : Nat → Bool) (ms : Nat) (sz : Nat → Nat) (tk : Nat → Nat → Nat) (hp : mdP I p kn ms sz tk) (hd : Nat) (hh : hd < 2) : hM l a0 D sa yX11_sendsS cX11_sendsS 6 (some .boolean) { frames := 0, cells := 0, slots := 0, locals := 0 } [.ref (A 63), .int (nI p), .int (nI hd)] (T, I, L, R, A) (fun r G' => (∃ q : Bool, r = some (.int (bI q)) ∧ (q = true ↔ ∃ m k, m < ms ∧ m % 2 = hd ∧ k < sz m ∧ tk m k = 1)) ∧ G' = (T, I, L, R, A)) := by
  refine hM.of (by decide +kernel) (Nat.le_of_ble_eq_true rfl) ?_
  intro z hl h0 hD hS hN C E
  subst hl; subst h0; subst hD; subst hS
  have C : hC z RX11 cX11_sendsS := C
  have hZ := E.2.2.2.1
  show hX z 0 0 (T, I, L, R, A) [(0, .ref (A 63)), (1, .int (nI p)), (2, .int (nI hd))] 0 []
  have hms := hp.2.2.2.2.1
  refine x_iload_n C dX11_sendsS_0 2 rfl rfl ?_
  refine x_istore_n (lv' := [(3, .int (nI hd)), (0, .ref (A 63)), (1, .int (nI p)), (2, .int (nI hd))]) C dX11_sendsS_1 rfl (Nat.lt_of_lt_of_eq (by decide) hN.symm) rfl ?_
  have L2 : ∀ (fuel_ : Nat) (m : Nat), ms + 2 - m < fuel_ → (m ≤ ms + 1 ∧ m % 2 = hd) → (∀ p k, p < m → p % 2 = hd → k < sz p → tk p k ≠ 1) → hX z 0 0 (T, I, L, R, A) [(3, .int (nI m)), (0, .ref (A 63)), (1, .int (nI p)), (2, .int (nI hd))] 2 [] := by
    intro fuel_
    induction fuel_ with
    | zero => intro m hmz; exact absurd hmz (Nat.not_lt_zero _)
    | succ fuel_ ih2 =>
      intro m hmz hm hv
      refine x_iload_n C dX11_sendsS_2 0 rfl rfl ?_
      refine x_aload_n C dX11_sendsS_3 1 rfl rfl ?_
      refine x_getrN C fl_X11_156 mO.1 rfl (mO.2.2 26 _ rfl).1 dX11_sendsS_4 ?_
      refine x_iload_n C dX11_sendsS_7 2 rfl rfl ?_
      refine x_ialdN C (mO.2.2 26 _ rfl).2.1 (by first | omega | (have h1_ := hp.2.2.2.2.2.1 m; omega) | (have h1_ := hp.2.2.2.2.2.1 m; have h2_ := hp.2.2.2.2.2.2 m k; omega)) (by omega) dX11_sendsS_8 ?_
      refine x_eqi (y := nI ms) (by exact hp.2.1) ?_
      refine x_icmp_geN (tgt := 65) C (by first | omega | (have h1_ := hp.2.2.2.2.2.1 m; omega) | (have h1_ := hp.2.2.2.2.2.1 m; have h2_ := hp.2.2.2.2.2.2 m k; omega)) (by first | omega | (have h1_ := hp.2.2.2.2.2.1 m; omega) | (have h1_ := hp.2.2.2.2.2.1 m; have h2_ := hp.2.2.2.2.2.2 m k; omega)) dX11_sendsS_9 (by decide) (fun c9 => ?_) (fun c9 => ?_)
      · refine x_iconst (v := nI 0) C dX11_sendsS_65 (by decide +kernel) ?_
        exact x_zret C E (by first | exact Or.inl rfl | exact Or.inr rfl | assumption) (Nat.le_of_ble_eq_true rfl) (Nat.le_of_ble_eq_true rfl) dX11_sendsS_66 (⟨⟨false, rfl, by simp only [Bool.false_eq_true, false_iff]; rintro ⟨p, q, h1, h2, h3, h4⟩; exact hv p q (by omega) h2 h3 h4⟩, rfl⟩)
      · refine x_bipush (v := nI 6) C dX11_sendsS_12 (by decide +kernel) ?_
        refine x_iload_n C dX11_sendsS_14 2 rfl rfl ?_
        refine x_imulN C dX11_sendsS_15 ?_
        refine x_iload_n C dX11_sendsS_16 0 rfl rfl ?_
        refine x_iaddN C dX11_sendsS_17 ?_
        refine x_istore (lv' := [(4, .int (nI (6 * p + m))), (3, .int (nI m)), (0, .ref (A 63)), (1, .int (nI p)), (2, .int (nI hd))]) C dX11_sendsS_18 (Nat.lt_of_lt_of_eq (by decide) hN.symm) rfl ?_
        refine x_iconst (v := nI 0) C dX11_sendsS_20 (by decide +kernel) ?_
        refine x_istore (lv' := [(5, .int (nI 0)), (4, .int (nI (6 * p + m))), (3, .int (nI m)), (0, .ref (A 63)), (1, .int (nI p)), (2, .int (nI hd))]) C dX11_sendsS_21 (Nat.lt_of_lt_of_eq (by decide) hN.symm) rfl ?_
        have L23 : ∀ (fuel_ : Nat) (k : Nat), sz m - k < fuel_ → (k ≤ sz m) → (∀ j, j < k → tk m j ≠ 1) → hX z 0 0 (T, I, L, R, A) [(5, .int (nI k)), (4, .int (nI (6 * p + m))), (3, .int (nI m)), (0, .ref (A 63)), (1, .int (nI p)), (2, .int (nI hd))] 23 [] := by
          intro fuel_
          induction fuel_ with
          | zero => intro k hmz; exact absurd hmz (Nat.not_lt_zero _)
          | succ fuel_ ih23 =>
            intro k hmz hk hw
            refine x_iload C dX11_sendsS_23 0 rfl ?_
            refine x_aload_n C dX11_sendsS_25 3 rfl rfl ?_
            refine x_getrN C fl_X11_159 mO.1 rfl (mO.2.2 27 _ rfl).1 dX11_sendsS_26 ?_
            refine x_iload C dX11_sendsS_29 1 rfl ?_
            refine x_ialdN C (mO.2.2 27 _ rfl).2.1 (by first | omega | (have h1_ := hp.2.2.2.2.2.1 m; omega) | (have h1_ := hp.2.2.2.2.2.1 m; have h2_ := hp.2.2.2.2.2.2 m k; omega)) (by omega) dX11_sendsS_31 ?_
            refine x_eqi (y := nI (sz m)) (by exact hp.2.2.1 m (by omega)) ?_
            refine x_icmp_geN (tgt := 59) C (by first | omega | (have h1_ := hp.2.2.2.2.2.1 m; omega) | (have h1_ := hp.2.2.2.2.2.1 m; have h2_ := hp.2.2.2.2.2.2 m k; omega)) (by first | omega | (have h1_ := hp.2.2.2.2.2.1 m; omega) | (have h1_ := hp.2.2.2.2.2.1 m; have h2_ := hp.2.2.2.2.2.2 m k; omega)) dX11_sendsS_32 (by decide) (fun c32 => ?_) (fun c32 => ?_)
            · refine x_iinc (v := nI (m + 2)) (lv' := [(3, .int (nI (m + 2))), (5, .int (nI k)), (4, .int (nI (6 * p + m))), (0, .ref (A 63)), (1, .int (nI p)), (2, .int (nI hd))]) C dX11_sendsS_59 2 rfl (nI_inc 2) (Nat.lt_of_lt_of_eq (by decide) hN.symm) rfl ?_
              refine x_goto (tgt := 2) C dX11_sendsS_62 (by decide) ?_
              refine x_sub (lv' := _) [0, 3, 4, 5] rfl ?_
              exact ih2 (m + 2) (by omega) (by omega) (fun p q h1 h2 h3 => by rcases Nat.lt_or_ge p m with g | g; exact hv p q g h2 h3; rw [show p = m by omega] at h3 ⊢; exact hw q (by omega))
            · have hm5 := hp.2.2.2.2.2.1 m
              refine x_aload_n C dX11_sendsS_35 3 rfl rfl ?_
              refine x_getrN C fl_X11_162 mO.1 rfl (mO.2.2 28 _ rfl).1 dX11_sendsS_36 ?_
              refine x_iconst (v := nI 5) C dX11_sendsS_39 (by decide +kernel) ?_
              refine x_iload C dX11_sendsS_40 1 rfl ?_
              refine x_imulN C dX11_sendsS_42 ?_
              refine x_iload C dX11_sendsS_43 0 rfl ?_
              refine x_iaddN C dX11_sendsS_45 ?_
              refine x_ialdN C (mO.2.2 28 _ rfl).2.1 (by first | omega | (have h1_ := hp.2.2.2.2.2.1 m; omega) | (have h1_ := hp.2.2.2.2.2.1 m; have h2_ := hp.2.2.2.2.2.2 m k; omega)) (by omega) dX11_sendsS_46 ?_
              refine x_eqi (y := nI (tk m k)) (by exact hp.2.2.2.1 m (by omega) k (by omega)) ?_
              refine x_iconst (v := nI 1) C dX11_sendsS_47 (by decide +kernel) ?_
              refine x_icmp_neN (tgt := 53) C (by first | omega | (have h1_ := hp.2.2.2.2.2.1 m; omega) | (have h1_ := hp.2.2.2.2.2.1 m; have h2_ := hp.2.2.2.2.2.2 m k; omega)) (by first | omega | (have h1_ := hp.2.2.2.2.2.1 m; omega) | (have h1_ := hp.2.2.2.2.2.1 m; have h2_ := hp.2.2.2.2.2.2 m k; omega)) dX11_sendsS_48 (by decide) (fun c48 => ?_) (fun c48 => ?_)
              · refine x_iinc (v := nI (k + 1)) (lv' := [(5, .int (nI (k + 1))), (4, .int (nI (6 * p + m))), (3, .int (nI m)), (0, .ref (A 63)), (1, .int (nI p)), (2, .int (nI hd))]) C dX11_sendsS_53 0 rfl (nI_inc 1) (Nat.lt_of_lt_of_eq (by decide) hN.symm) rfl ?_
                refine x_goto (tgt := 23) C dX11_sendsS_56 (by decide) ?_
                refine x_sub (lv' := _) [0, 1, 2, 3, 4, 5] rfl ?_
                exact ih23 (k + 1) (by omega) (by omega) (fun j hj => by rcases Nat.lt_or_ge j k with g | g; exact hw j g; rw [show j = k by omega]; exact c48)
              · refine x_iconst (v := nI 1) C dX11_sendsS_51 (by decide +kernel) ?_
                exact x_zret C E (by first | exact Or.inl rfl | exact Or.inr rfl | assumption) (Nat.le_of_ble_eq_true rfl) (Nat.le_of_ble_eq_true rfl) dX11_sendsS_52 (⟨⟨true, rfl, by simp only [true_iff]; exact ⟨m, k, by omega, hm.2, by omega, c48⟩⟩, rfl⟩)
        refine x_sub (lv' := _) [0, 1, 2, 3, 4, 5] rfl ?_
        exact L23 _ 0 (Nat.lt_succ_self _) (Nat.zero_le _) (fun j hj => absurd hj (Nat.not_lt_zero j))
  refine x_sub (lv' := _) [0, 1, 2, 3] rfl ?_
  exact L2 _ hd (Nat.lt_succ_self _) (by omega) (fun p k h1 h2 => by omega)

