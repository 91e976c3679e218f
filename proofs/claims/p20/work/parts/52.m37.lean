theorem bN_b17 (b : Nat → Nat) : bN (b17 b 0) 17 = bN b 16 := by
  show bN (b17 b 0) 16 + b17 b 0 16 * 256 ^ 16 = _
  rw [bN_cg (a := b17 b 0) (b := b) 16 (fun j hj => by unfold b17; rw [if_pos hj]), show b17 b 0 16 = 0 from rfl, Nat.zero_mul, Nat.add_zero]
theorem mS_0 : mS (fun _ => 0) 0 := ⟨fun _ _ => (by decide : 0 < 256), (by decide : 0 ≤ 4), by decide +kernel⟩
theorem mS_pol {s f M : Nat → Nat} {r : Int} {g : Nat} (h : mS s (pol r 0 M g)) (hb : ∀ j, j < 16 → M (16 * g + j) < 256) (hf : ∀ j, j < 17 → f j < 256) (hr : ((bN f 17 : Nat) : Int) = r) : mS (mlF (adF s (b17 (fun t => M (16 * g + t)) 1)) f) (pol r 0 M (g + 1)) := by
  have := mS_blk (b := fun t => M (16 * g + t)) h hb hf
  rw [hr, pol_s (fun t _ => rfl)] at this
  exact this
theorem cp17 {J : Nat → Nat → Int32} {a b : Nat} {s : Nat → Nat} {n : Nat} (hn : 17 ≤ n) (h : i17 J a s) : i17 (va_up J b (fun j => if 0 ≤ j ∧ j < 0 + n then J a (0 + (j - 0)) else J b j)) b s := fun t ht => by
  rw [up_eq, if_pos (by omega), Nat.zero_add, Nat.sub_zero]; exact h t ht
theorem i17.f {I J : Nat → Nat → Int32} {a : Nat} {s : Nat → Nat} {S : List Nat} (h : i17 I a s) (f : fx S I J) (ha : a ∉ S) : i17 J a s := fun t ht => by rw [f a ha]; exact h t ht
theorem i17.u {I J : Nat → Nat → Int32} {a b : Nat} {s : Nat → Nat} {g : Nat → Int32} (h : i17 I a s) (e : J = va_up I b g) (ha : a ≠ b) : i17 J a s := fun t ht => by rw [e, up_ne _ _ ha]; exact h t ht
theorem b17_lt {b : Nat → Nat} {e : Nat} (h : ∀ j, j < 16 → b j < 256) (he : e < 256) : ∀ j, j < 17 → b17 b e j < 256 := fun j hj => by
  unfold b17; split
  · exact h j (by assumption)
  · exact he
theorem p252_lt : ∀ j, j < 17 → p252 j < 256 := fun j _ => by unfold p252; split <;> (try split) <;> decide
/-- the tag of what was told -/
def tagN (k M : Nat → Nat) (g : Nat) (j : Nat) : Nat := tgV (pol (bN (clN k) 16 : Nat) 0 M g) (fun t => k (16 + t)) j
set_option maxHeartbeats 4000000 in
set_option maxRecDepth 100000 in
theorem ok_X11_tags {l : Launch} {a0 : Nat} {D : va_G} {sa : Nat → Nat} {T : Nat → Option hKd} {I : Nat → Nat → Int32} {L : Nat → Nat → Int64} {R : Nat → Nat → Option Nat} {A : Nat → Nat} (mO : isM T R A a0) (n : Nat) (k M : Nat → Nat) (hn : n % 16 = 0) (hn2 : n ≤ 200) (hk : ∀ j, j < 32 → I 21 j = nI (k j) ∧ k j < 256) (hMb : ∀ t, t < n → I 22 t = nI (M t) ∧ M t < 256) : hM l a0 D sa yX11_tags cX11_tags 4 none { frames := 1, cells := 0, slots := 0, locals := 25 } [.ref (A 63), .int (nI n)] (T, I, L, R, A) (fun r G' => r = none ∧ ∃ I', G' = (T, I', L, R, A) ∧ (∀ j, j < 16 → I' 23 j = nI (tagN k M (n / 16) j)) ∧ fx [17, 18, 19, 20, 23] I I') := by
  refine hM.of (by decide +kernel) (Nat.le_of_ble_eq_true rfl) ?_
  intro z hl h0 hD hS hN C E
  subst hl; subst h0; subst hD; subst hS
  have C : hC z RX11 cX11_tags := C
  have hZ := E.2.2.2.1
  show hX z 0 0 (T, I, L, R, A) [(0, .ref (A 63)), (1, .int (nI n))] 0 []
  refine x_iconst (v := nI 0) C dX11_tags_0 (by decide +kernel) ?_
  refine x_istore_n (lv' := [(2, .int (nI 0)), (0, .ref (A 63)), (1, .int (nI n))]) C dX11_tags_1 rfl (Nat.lt_of_lt_of_eq (by decide) hN.symm) rfl ?_
  have L2 : ∀ (fuel_ : Nat) (j : Nat) (J : Nat → Nat → Int32), 17 - j < fuel_ → (j ≤ 17) → (∀ t, t < j → J 17 t = nI ((fun _ => 0) t)) → (∀ t, t < j → J 18 t = nI ((b17 (clN k) 0) t)) → (fx [17, 18, 19, 20] I J) → hX z 0 0 (T, J, L, R, A) [(2, .int (nI j)), (0, .ref (A 63)), (1, .int (nI n))] 2 [] := by
    intro fuel_
    induction fuel_ with
    | zero => intro j J hmz; exact absurd hmz (Nat.not_lt_zero _)
    | succ fuel_ ih2 =>
      intro j J hmz hj hS hF fJ
      refine x_iload_n C dX11_tags_2 0 rfl rfl ?_
      refine x_bipush (v := nI 17) C dX11_tags_3 (by decide +kernel) ?_
      refine x_icmp_geN (tgt := 85) C (by omega) (by omega) dX11_tags_5 (by decide) (fun c5 => ?_) (fun c5 => ?_)
      · refine x_iconst (v := nI 0) C dX11_tags_85 (by decide +kernel) ?_
        refine x_istore_n (lv' := [(2, .int (nI 0)), (0, .ref (A 63)), (1, .int (nI n))]) C dX11_tags_86 rfl (Nat.lt_of_lt_of_eq (by decide) hN.symm) rfl ?_
        have L87 : ∀ (fuel_ : Nat) (g : Nat) (J : Nat → Nat → Int32), n - g < fuel_ → (16 * g ≤ n) → (∃ s, i17 J 17 s ∧ mS s (pol ((bN (clN k) 16 : Nat) : Int) 0 M g)) → (i17 J 18 (b17 (clN k) 0)) → (fx [17, 18, 19, 20] I J) → hX z 0 0 (T, J, L, R, A) [(2, .int (nI (16 * g))), (0, .ref (A 63)), (1, .int (nI n))] 87 [] := by
          intro fuel_
          induction fuel_ with
          | zero => intro g J hmz; exact absurd hmz (Nat.not_lt_zero _)
          | succ fuel_ ih87 =>
            intro g J hmz hg hs hF fJ
            obtain ⟨s, hs, ms⟩ := hs
            refine x_iload_n C dX11_tags_87 0 rfl rfl ?_
            refine x_iload_n C dX11_tags_88 2 rfl rfl ?_
            refine x_icmp_geN (tgt := 144) C (by omega) (by omega) dX11_tags_89 (by decide) (fun c89 => ?_) (fun c89 => ?_)
            · refine x_aload_n C dX11_tags_144 1 rfl rfl ?_
              refine x_getrN C fl_X11_131 mO.1 rfl (mO.2.2 17 _ rfl).1 dX11_tags_145 ?_
              refine x_iconst (v := nI 0) C dX11_tags_148 (by decide +kernel) ?_
              refine x_aload_n C dX11_tags_149 1 rfl rfl ?_
              refine x_getrN C fl_X11_140 mO.1 rfl (mO.2.2 20 _ rfl).1 dX11_tags_150 ?_
              refine x_iconst (v := nI 0) C dX11_tags_153 (by decide +kernel) ?_
              refine x_bipush (v := nI 17) C dX11_tags_154 (by decide +kernel) ?_
              refine x_callS C (ok_X11_copy 17 20 0 0 17 17 17 (mO.2.2 17 _ rfl).2.1 (mO.2.2 20 _ rfl).2.1 (mO.2.2 20 _ rfl).2.2 (by decide) (by decide) (by decide) (by decide) (by decide)) ms_X11_copy ml_X11_270 rfl rfl (Nat.le_of_ble_eq_true rfl) (hrm (rm := { frames := 0, cells := 0, slots := 0, locals := 0 }) hZ ⟨Nat.le_of_ble_eq_true rfl, Nat.le_of_ble_eq_true rfl⟩) (hcs hZ ⟨Nat.le_of_ble_eq_true rfl, Nat.le_of_ble_eq_true rfl⟩) dX11_tags_156 (fun v G' hp => ?_)
              obtain ⟨rfl, rfl⟩ := hp
              have q0 := cp17 (b := 20) (Nat.le_refl 17) hs
              generalize hK0 : va_up J 20 _ = K0 at q0
              have hs0 : i17 K0 17 s := hs.u hK0.symm (by decide)
              have fK0 : fx [17, 18, 19, 20] I K0 := by rw [← hK0]; exact fJ.up (by simp)
              show hX z 0 0 (T, K0, L, R, A) [(2, .int (nI (16 * g))), (0, .ref (A 63)), (1, .int (nI n))] 159 []
              refine x_iconst (v := nI 0) C dX11_tags_159 (by decide +kernel) ?_
              refine x_istore_n (lv' := [(2, .int (nI 0)), (0, .ref (A 63)), (1, .int (nI n))]) C dX11_tags_160 rfl (Nat.lt_of_lt_of_eq (by decide) hN.symm) rfl ?_
              have L161 : ∀ (fuel_ : Nat) (j : Nat) (J : Nat → Nat → Int32), 17 - j < fuel_ → (j ≤ 17) → (∀ t, t < j → J 19 t = nI (p252 t)) → (i17 J 17 s) → (i17 J 20 s) → (fx [17, 18, 19, 20] I J) → hX z 0 0 (T, J, L, R, A) [(2, .int (nI j)), (0, .ref (A 63)), (1, .int (nI n))] 161 [] := by
                intro fuel_
                induction fuel_ with
                | zero => intro j J hmz; exact absurd hmz (Nat.not_lt_zero _)
                | succ fuel_ ih161 =>
                  intro j J hmz hj hP hs hQ fJ
                  refine x_iload_n C dX11_tags_161 0 rfl rfl ?_
                  refine x_bipush (v := nI 17) C dX11_tags_162 (by decide +kernel) ?_
                  refine x_icmp_geN (tgt := 200) C (by omega) (by omega) dX11_tags_164 (by decide) (fun c164 => ?_) (fun c164 => ?_)
                  · refine x_aload_n C dX11_tags_200 1 rfl rfl ?_
                    refine x_callV C (ok_X11_adds mO s p252 hs (fun t ht => hP t (by omega)) ms.1 p252_lt) mv_X11_adds ml_X11_347 mO.1 rfl rfl rfl (Nat.le_of_ble_eq_true rfl) (hrm (rm := { frames := 0, cells := 0, slots := 0, locals := 0 }) hZ ⟨Nat.le_of_ble_eq_true rfl, Nat.le_of_ble_eq_true rfl⟩) (hcs hZ ⟨Nat.le_of_ble_eq_true rfl, Nat.le_of_ble_eq_true rfl⟩) dX11_tags_201 (fun v G' hp => ?_)
                    obtain ⟨rfl, J1, rfl, s1, f1⟩ := hp
                    show hX z 0 0 (T, J1, L, R, A) [(2, .int (nI j)), (0, .ref (A 63)), (1, .int (nI n))] 204 []
                    have ha16 := cyB_lt 0 (fun i => s i + p252 i) 16
                    have ha16 : adF s p252 16 < 256 := ha16
                    refine x_aload_n C dX11_tags_204 1 rfl rfl ?_
                    refine x_getrN C fl_X11_131 mO.1 rfl (mO.2.2 17 _ rfl).1 dX11_tags_205 ?_
                    refine x_bipush (v := nI 16) C dX11_tags_208 (by decide +kernel) ?_
                    refine x_ialdN C (mO.2.2 17 _ rfl).2.1 (by omega) (by omega) dX11_tags_210 ?_
                    refine x_eqi (y := nI (adF s p252 16)) (s1 16 (by decide)) ?_
                    refine x_sipush (v := nI 128) C dX11_tags_211 (by decide +kernel) ?_
                    refine x_icmp_ltN (tgt := 232) C (by omega) (by omega) dX11_tags_214 (by decide) (fun c214 => ?_) (fun c214 => ?_)
                    · have hE : i17 J1 17 (mEnd s) := by rw [show mEnd s = adF s p252 from if_pos c214]; exact s1
                      refine x_iconst (v := nI 0) C dX11_tags_232 (by decide +kernel) ?_
                      refine x_istore_n (lv' := [(2, .int (nI 0)), (0, .ref (A 63)), (1, .int (nI n))]) C dX11_tags_233 rfl (Nat.lt_of_lt_of_eq (by decide) hN.symm) rfl ?_
                      have L234 : ∀ (fuel_ : Nat) (j : Nat) (J : Nat → Nat → Int32), 17 - j < fuel_ → (j ≤ 17) → (∀ t, t < j → J 19 t = nI ((b17 (fun t => k (16 + t)) 0) t)) → (i17 J 17 (mEnd s)) → (fx [17, 18, 19, 20] I J) → hX z 0 0 (T, J, L, R, A) [(2, .int (nI j)), (0, .ref (A 63)), (1, .int (nI n))] 234 [] := by
                        intro fuel_
                        induction fuel_ with
                        | zero => intro j J hmz; exact absurd hmz (Nat.not_lt_zero _)
                        | succ fuel_ ih234 =>
                          intro j J hmz hj hP hE fJ
                          refine x_iload_n C dX11_tags_234 0 rfl rfl ?_
                          refine x_bipush (v := nI 17) C dX11_tags_235 (by decide +kernel) ?_
                          refine x_icmp_geN (tgt := 271) C (by omega) (by omega) dX11_tags_237 (by decide) (fun c237 => ?_) (fun c237 => ?_)
                          · refine x_aload_n C dX11_tags_271 1 rfl rfl ?_
                            refine x_callV C (ok_X11_adds mO (mEnd s) (b17 (fun t => k (16 + t)) 0) hE (fun t ht => hP t (by omega)) (mEnd_v ms).2 (b17_lt (fun j hj => (hk (16 + j) (by omega)).2) (by decide))) mv_X11_adds ml_X11_347 mO.1 rfl rfl rfl (Nat.le_of_ble_eq_true rfl) (hrm (rm := { frames := 0, cells := 0, slots := 0, locals := 0 }) hZ ⟨Nat.le_of_ble_eq_true rfl, Nat.le_of_ble_eq_true rfl⟩) (hcs hZ ⟨Nat.le_of_ble_eq_true rfl, Nat.le_of_ble_eq_true rfl⟩) dX11_tags_272 (fun v G' hp => ?_)
                            obtain ⟨rfl, J3, rfl, s3, f3⟩ := hp
                            show hX z 0 0 (T, J3, L, R, A) [(2, .int (nI j)), (0, .ref (A 63)), (1, .int (nI n))] 275 []
                            refine x_aload_n C dX11_tags_275 1 rfl rfl ?_
                            refine x_getrN C fl_X11_131 mO.1 rfl (mO.2.2 17 _ rfl).1 dX11_tags_276 ?_
                            refine x_iconst (v := nI 0) C dX11_tags_279 (by decide +kernel) ?_
                            refine x_aload_n C dX11_tags_280 1 rfl rfl ?_
                            refine x_getrN C fl_X11_149 mO.1 rfl (mO.2.2 23 _ rfl).1 dX11_tags_281 ?_
                            refine x_iconst (v := nI 0) C dX11_tags_284 (by decide +kernel) ?_
                            refine x_bipush (v := nI 16) C dX11_tags_285 (by decide +kernel) ?_
                            refine x_callS C (ok_X11_copy 17 23 0 0 16 17 16 (mO.2.2 17 _ rfl).2.1 (mO.2.2 23 _ rfl).2.1 (mO.2.2 23 _ rfl).2.2 (by decide) (by decide) (by decide) (by decide) (by decide)) ms_X11_copy ml_X11_270 rfl rfl (Nat.le_of_ble_eq_true rfl) (hrm (rm := { frames := 0, cells := 0, slots := 0, locals := 0 }) hZ ⟨Nat.le_of_ble_eq_true rfl, Nat.le_of_ble_eq_true rfl⟩) (hcs hZ ⟨Nat.le_of_ble_eq_true rfl, Nat.le_of_ble_eq_true rfl⟩) dX11_tags_287 (fun v G' hp => ?_)
                            obtain ⟨rfl, rfl⟩ := hp
                            generalize hK2 : va_up J3 23 _ = K2
                            show hX z 0 0 (T, K2, L, R, A) [(2, .int (nI j)), (0, .ref (A 63)), (1, .int (nI n))] 290 []
                            exact x_vret C E (Nat.le_of_ble_eq_true rfl) (Nat.le_of_ble_eq_true rfl) dX11_tags_290 (⟨rfl, K2, rfl, fun j hj => by rw [← hK2, up_eq, if_pos (by omega), Nat.zero_add, Nat.sub_zero, s3 j (by omega)]; exact congrArg nI ((mTag (mEnd_v ms).1 hj).trans (by rw [show n / 16 = g by omega]; rfl)), by rw [← hK2]; exact ((fJ.wk (by simp)).tr f3 (by simp)).up (by simp)⟩)
                          · refine x_aload_n C dX11_tags_240 1 rfl rfl ?_
                            refine x_getrN C fl_X11_137 mO.1 rfl (mO.2.2 19 _ rfl).1 dX11_tags_241 ?_
                            refine x_iload_n C dX11_tags_244 0 rfl rfl ?_
                            refine x_iload_n C dX11_tags_245 0 rfl rfl ?_
                            refine x_bipush (v := nI 16) C dX11_tags_246 (by decide +kernel) ?_
                            refine x_icmp_geN (tgt := 263) C (by omega) (by omega) dX11_tags_248 (by decide) (fun c248 => ?_) (fun c248 => ?_)
                            · refine x_iconst (v := nI 0) C dX11_tags_263 (by decide +kernel) ?_
                              refine x_eqi (y := nI ((b17 (fun t => k (16 + t)) 0) j)) (by unfold b17; rw [if_neg (by omega)]) ?_
                              refine x_iastN C (mO.2.2 19 _ rfl).2.1 (mO.2.2 19 _ rfl).2.2 (by omega) (by omega) dX11_tags_264 (fun I1 eI1 => ?_)
                              refine x_iinc (v := nI (j + 1)) (lv' := [(2, .int (nI (j + 1))), (0, .ref (A 63)), (1, .int (nI n))]) C dX11_tags_265 0 rfl (nI_inc 1) (Nat.lt_of_lt_of_eq (by decide) hN.symm) rfl ?_
                              refine x_goto (tgt := 234) C dX11_tags_268 (by decide) ?_
                              refine x_sub (lv' := _) [0, 1, 2] rfl ?_
                              exact ih234 (j + 1) I1 (by omega) (by omega) (g_ap (f := fun t => nI ((b17 (fun t => k (16 + t)) 0) t)) hP (by rw [eI1, up_eq])) (hE.u eI1 (by decide)) (by rw [eI1]; exact fJ.up (by simp))
                            · refine x_aload_n C dX11_tags_251 1 rfl rfl ?_
                              refine x_getrN C fl_X11_143 mO.1 rfl (mO.2.2 21 _ rfl).1 dX11_tags_252 ?_
                              refine x_bipush (v := nI 16) C dX11_tags_255 (by decide +kernel) ?_
                              refine x_iload_n C dX11_tags_257 0 rfl rfl ?_
                              refine x_iaddN C dX11_tags_258 ?_
                              refine x_ialdN C (mO.2.2 21 _ rfl).2.1 (by omega) (by omega) dX11_tags_259 ?_
                              refine x_eqi (y := nI (k (16 + j))) (by rw [fJ 21 (by simp)]; exact (hk _ (by omega)).1) ?_
                              refine x_goto (tgt := 264) C dX11_tags_260 (by decide) ?_
                              refine x_eqi (y := nI ((b17 (fun t => k (16 + t)) 0) j)) (by unfold b17; rw [if_pos (by omega)]) ?_
                              refine x_iastN C (mO.2.2 19 _ rfl).2.1 (mO.2.2 19 _ rfl).2.2 (by omega) (by omega) dX11_tags_264 (fun I2 eI2 => ?_)
                              refine x_iinc (v := nI (j + 1)) (lv' := [(2, .int (nI (j + 1))), (0, .ref (A 63)), (1, .int (nI n))]) C dX11_tags_265 0 rfl (nI_inc 1) (Nat.lt_of_lt_of_eq (by decide) hN.symm) rfl ?_
                              refine x_goto (tgt := 234) C dX11_tags_268 (by decide) ?_
                              refine x_sub (lv' := _) [0, 1, 2] rfl ?_
                              exact ih234 (j + 1) I2 (by omega) (by omega) (g_ap (f := fun t => nI ((b17 (fun t => k (16 + t)) 0) t)) hP (by rw [eI2, up_eq])) (hE.u eI2 (by decide)) (by rw [eI2]; exact fJ.up (by simp))
                      refine x_sub (lv' := _) [0, 1, 2] rfl ?_
                      exact L234 _ 0 J1 (Nat.lt_succ_self _) (by omega) (fun t h => absurd h (by omega)) hE (fJ.tr f1 (by simp))
                    · refine x_aload_n C dX11_tags_217 1 rfl rfl ?_
                      refine x_getrN C fl_X11_140 mO.1 rfl (mO.2.2 20 _ rfl).1 dX11_tags_218 ?_
                      refine x_iconst (v := nI 0) C dX11_tags_221 (by decide +kernel) ?_
                      refine x_aload_n C dX11_tags_222 1 rfl rfl ?_
                      refine x_getrN C fl_X11_131 mO.1 rfl (mO.2.2 17 _ rfl).1 dX11_tags_223 ?_
                      refine x_iconst (v := nI 0) C dX11_tags_226 (by decide +kernel) ?_
                      refine x_bipush (v := nI 17) C dX11_tags_227 (by decide +kernel) ?_
                      refine x_callS C (ok_X11_copy 20 17 0 0 17 17 17 (mO.2.2 20 _ rfl).2.1 (mO.2.2 17 _ rfl).2.1 (mO.2.2 17 _ rfl).2.2 (by decide) (by decide) (by decide) (by decide) (by decide)) ms_X11_copy ml_X11_270 rfl rfl (Nat.le_of_ble_eq_true rfl) (hrm (rm := { frames := 0, cells := 0, slots := 0, locals := 0 }) hZ ⟨Nat.le_of_ble_eq_true rfl, Nat.le_of_ble_eq_true rfl⟩) (hcs hZ ⟨Nat.le_of_ble_eq_true rfl, Nat.le_of_ble_eq_true rfl⟩) dX11_tags_229 (fun v G' hp => ?_)
                      obtain ⟨rfl, rfl⟩ := hp
                      have hE := cp17 (b := 17) (Nat.le_refl 17) (hQ.f f1 (by simp))
                      generalize hK1 : va_up J1 17 _ = K1 at hE
                      have hE : i17 K1 17 (mEnd s) := by rw [show mEnd s = s from if_neg (by omega)]; exact hE
                      have fK1 : fx [17, 18, 19, 20] I K1 := by rw [← hK1]; exact (fJ.tr f1 (by simp)).up (by simp)
                      show hX z 0 0 (T, K1, L, R, A) [(2, .int (nI j)), (0, .ref (A 63)), (1, .int (nI n))] 232 []
                      refine x_iconst (v := nI 0) C dX11_tags_232 (by decide +kernel) ?_
                      refine x_istore_n (lv' := [(2, .int (nI 0)), (0, .ref (A 63)), (1, .int (nI n))]) C dX11_tags_233 rfl (Nat.lt_of_lt_of_eq (by decide) hN.symm) rfl ?_
                      have L234 : ∀ (fuel_ : Nat) (j : Nat) (J : Nat → Nat → Int32), 17 - j < fuel_ → (j ≤ 17) → (∀ t, t < j → J 19 t = nI ((b17 (fun t => k (16 + t)) 0) t)) → (i17 J 17 (mEnd s)) → (fx [17, 18, 19, 20] I J) → hX z 0 0 (T, J, L, R, A) [(2, .int (nI j)), (0, .ref (A 63)), (1, .int (nI n))] 234 [] := by
                        intro fuel_
                        induction fuel_ with
                        | zero => intro j J hmz; exact absurd hmz (Nat.not_lt_zero _)
                        | succ fuel_ ih234 =>
                          intro j J hmz hj hP hE fJ
                          refine x_iload_n C dX11_tags_234 0 rfl rfl ?_
                          refine x_bipush (v := nI 17) C dX11_tags_235 (by decide +kernel) ?_
                          refine x_icmp_geN (tgt := 271) C (by omega) (by omega) dX11_tags_237 (by decide) (fun c237 => ?_) (fun c237 => ?_)
                          · refine x_aload_n C dX11_tags_271 1 rfl rfl ?_
                            refine x_callV C (ok_X11_adds mO (mEnd s) (b17 (fun t => k (16 + t)) 0) hE (fun t ht => hP t (by omega)) (mEnd_v ms).2 (b17_lt (fun j hj => (hk (16 + j) (by omega)).2) (by decide))) mv_X11_adds ml_X11_347 mO.1 rfl rfl rfl (Nat.le_of_ble_eq_true rfl) (hrm (rm := { frames := 0, cells := 0, slots := 0, locals := 0 }) hZ ⟨Nat.le_of_ble_eq_true rfl, Nat.le_of_ble_eq_true rfl⟩) (hcs hZ ⟨Nat.le_of_ble_eq_true rfl, Nat.le_of_ble_eq_true rfl⟩) dX11_tags_272 (fun v G' hp => ?_)
                            obtain ⟨rfl, J3, rfl, s3, f3⟩ := hp
                            show hX z 0 0 (T, J3, L, R, A) [(2, .int (nI j)), (0, .ref (A 63)), (1, .int (nI n))] 275 []
                            refine x_aload_n C dX11_tags_275 1 rfl rfl ?_
                            refine x_getrN C fl_X11_131 mO.1 rfl (mO.2.2 17 _ rfl).1 dX11_tags_276 ?_
                            refine x_iconst (v := nI 0) C dX11_tags_279 (by decide +kernel) ?_
                            refine x_aload_n C dX11_tags_280 1 rfl rfl ?_
                            refine x_getrN C fl_X11_149 mO.1 rfl (mO.2.2 23 _ rfl).1 dX11_tags_281 ?_
                            refine x_iconst (v := nI 0) C dX11_tags_284 (by decide +kernel) ?_
                            refine x_bipush (v := nI 16) C dX11_tags_285 (by decide +kernel) ?_
                            refine x_callS C (ok_X11_copy 17 23 0 0 16 17 16 (mO.2.2 17 _ rfl).2.1 (mO.2.2 23 _ rfl).2.1 (mO.2.2 23 _ rfl).2.2 (by decide) (by decide) (by decide) (by decide) (by decide)) ms_X11_copy ml_X11_270 rfl rfl (Nat.le_of_ble_eq_true rfl) (hrm (rm := { frames := 0, cells := 0, slots := 0, locals := 0 }) hZ ⟨Nat.le_of_ble_eq_true rfl, Nat.le_of_ble_eq_true rfl⟩) (hcs hZ ⟨Nat.le_of_ble_eq_true rfl, Nat.le_of_ble_eq_true rfl⟩) dX11_tags_287 (fun v G' hp => ?_)
                            obtain ⟨rfl, rfl⟩ := hp
                            generalize hK2 : va_up J3 23 _ = K2
                            show hX z 0 0 (T, K2, L, R, A) [(2, .int (nI j)), (0, .ref (A 63)), (1, .int (nI n))] 290 []
                            exact x_vret C E (Nat.le_of_ble_eq_true rfl) (Nat.le_of_ble_eq_true rfl) dX11_tags_290 (⟨rfl, K2, rfl, fun j hj => by rw [← hK2, up_eq, if_pos (by omega), Nat.zero_add, Nat.sub_zero, s3 j (by omega)]; exact congrArg nI ((mTag (mEnd_v ms).1 hj).trans (by rw [show n / 16 = g by omega]; rfl)), by rw [← hK2]; exact ((fJ.wk (by simp)).tr f3 (by simp)).up (by simp)⟩)
                          · refine x_aload_n C dX11_tags_240 1 rfl rfl ?_
                            refine x_getrN C fl_X11_137 mO.1 rfl (mO.2.2 19 _ rfl).1 dX11_tags_241 ?_
                            refine x_iload_n C dX11_tags_244 0 rfl rfl ?_
                            refine x_iload_n C dX11_tags_245 0 rfl rfl ?_
                            refine x_bipush (v := nI 16) C dX11_tags_246 (by decide +kernel) ?_
                            refine x_icmp_geN (tgt := 263) C (by omega) (by omega) dX11_tags_248 (by decide) (fun c248 => ?_) (fun c248 => ?_)
                            · refine x_iconst (v := nI 0) C dX11_tags_263 (by decide +kernel) ?_
                              refine x_eqi (y := nI ((b17 (fun t => k (16 + t)) 0) j)) (by unfold b17; rw [if_neg (by omega)]) ?_
                              refine x_iastN C (mO.2.2 19 _ rfl).2.1 (mO.2.2 19 _ rfl).2.2 (by omega) (by omega) dX11_tags_264 (fun I3 eI3 => ?_)
                              refine x_iinc (v := nI (j + 1)) (lv' := [(2, .int (nI (j + 1))), (0, .ref (A 63)), (1, .int (nI n))]) C dX11_tags_265 0 rfl (nI_inc 1) (Nat.lt_of_lt_of_eq (by decide) hN.symm) rfl ?_
                              refine x_goto (tgt := 234) C dX11_tags_268 (by decide) ?_
                              refine x_sub (lv' := _) [0, 1, 2] rfl ?_
                              exact ih234 (j + 1) I3 (by omega) (by omega) (g_ap (f := fun t => nI ((b17 (fun t => k (16 + t)) 0) t)) hP (by rw [eI3, up_eq])) (hE.u eI3 (by decide)) (by rw [eI3]; exact fJ.up (by simp))
                            · refine x_aload_n C dX11_tags_251 1 rfl rfl ?_
                              refine x_getrN C fl_X11_143 mO.1 rfl (mO.2.2 21 _ rfl).1 dX11_tags_252 ?_
                              refine x_bipush (v := nI 16) C dX11_tags_255 (by decide +kernel) ?_
                              refine x_iload_n C dX11_tags_257 0 rfl rfl ?_
                              refine x_iaddN C dX11_tags_258 ?_
                              refine x_ialdN C (mO.2.2 21 _ rfl).2.1 (by omega) (by omega) dX11_tags_259 ?_
                              refine x_eqi (y := nI (k (16 + j))) (by rw [fJ 21 (by simp)]; exact (hk _ (by omega)).1) ?_
                              refine x_goto (tgt := 264) C dX11_tags_260 (by decide) ?_
                              refine x_eqi (y := nI ((b17 (fun t => k (16 + t)) 0) j)) (by unfold b17; rw [if_pos (by omega)]) ?_
                              refine x_iastN C (mO.2.2 19 _ rfl).2.1 (mO.2.2 19 _ rfl).2.2 (by omega) (by omega) dX11_tags_264 (fun I4 eI4 => ?_)
                              refine x_iinc (v := nI (j + 1)) (lv' := [(2, .int (nI (j + 1))), (0, .ref (A 63)), (1, .int (nI n))]) C dX11_tags_265 0 rfl (nI_inc 1) (Nat.lt_of_lt_of_eq (by decide) hN.symm) rfl ?_
                              refine x_goto (tgt := 234) C dX11_tags_268 (by decide) ?_
                              refine x_sub (lv' := _) [0, 1, 2] rfl ?_
                              exact ih234 (j + 1) I4 (by omega) (by omega) (g_ap (f := fun t => nI ((b17 (fun t => k (16 + t)) 0) t)) hP (by rw [eI4, up_eq])) (hE.u eI4 (by decide)) (by rw [eI4]; exact fJ.up (by simp))
                      refine x_sub (lv' := _) [0, 1, 2] rfl ?_
                      exact L234 _ 0 K1 (Nat.lt_succ_self _) (by omega) (fun t h => absurd h (by omega)) hE fK1
                  · refine x_aload_n C dX11_tags_167 1 rfl rfl ?_
                    refine x_getrN C fl_X11_137 mO.1 rfl (mO.2.2 19 _ rfl).1 dX11_tags_168 ?_
                    refine x_iload_n C dX11_tags_171 0 rfl rfl ?_
                    refine x_iload_n C dX11_tags_172 0 rfl rfl ?_
                    refine x_if_neN (tgt := 180) C (by omega) dX11_tags_173 (by decide) (fun c173 => ?_) (fun c173 => ?_)
                    · refine x_iload_n C dX11_tags_180 0 rfl rfl ?_
                      refine x_bipush (v := nI 16) C dX11_tags_181 (by decide +kernel) ?_
                      refine x_icmp_neN (tgt := 192) C (by omega) (by omega) dX11_tags_183 (by decide) (fun c183 => ?_) (fun c183 => ?_)
                      · refine x_iconst (v := nI 0) C dX11_tags_192 (by decide +kernel) ?_
                        refine x_eqi (y := nI (p252 j)) (by unfold p252; rw [if_neg (by omega), if_neg (by omega)]) ?_
                        refine x_iastN C (mO.2.2 19 _ rfl).2.1 (mO.2.2 19 _ rfl).2.2 (by omega) (by omega) dX11_tags_193 (fun I5 eI5 => ?_)
                        refine x_iinc (v := nI (j + 1)) (lv' := [(2, .int (nI (j + 1))), (0, .ref (A 63)), (1, .int (nI n))]) C dX11_tags_194 0 rfl (nI_inc 1) (Nat.lt_of_lt_of_eq (by decide) hN.symm) rfl ?_
                        refine x_goto (tgt := 161) C dX11_tags_197 (by decide) ?_
                        refine x_sub (lv' := _) [0, 1, 2] rfl ?_
                        exact ih161 (j + 1) I5 (by omega) (by omega) (g_ap (f := fun t => nI (p252 t)) hP (by rw [eI5, up_eq])) (hs.u eI5 (by decide)) (hQ.u eI5 (by decide)) (by rw [eI5]; exact fJ.up (by simp))
                      · refine x_sipush (v := nI 252) C dX11_tags_186 (by decide +kernel) ?_
                        refine x_goto (tgt := 193) C dX11_tags_189 (by decide) ?_
                        refine x_eqi (y := nI (p252 j)) (by unfold p252; rw [if_neg (by omega), if_pos (by omega)]) ?_
                        refine x_iastN C (mO.2.2 19 _ rfl).2.1 (mO.2.2 19 _ rfl).2.2 (by omega) (by omega) dX11_tags_193 (fun I6 eI6 => ?_)
                        refine x_iinc (v := nI (j + 1)) (lv' := [(2, .int (nI (j + 1))), (0, .ref (A 63)), (1, .int (nI n))]) C dX11_tags_194 0 rfl (nI_inc 1) (Nat.lt_of_lt_of_eq (by decide) hN.symm) rfl ?_
                        refine x_goto (tgt := 161) C dX11_tags_197 (by decide) ?_
                        refine x_sub (lv' := _) [0, 1, 2] rfl ?_
                        exact ih161 (j + 1) I6 (by omega) (by omega) (g_ap (f := fun t => nI (p252 t)) hP (by rw [eI6, up_eq])) (hs.u eI6 (by decide)) (hQ.u eI6 (by decide)) (by rw [eI6]; exact fJ.up (by simp))
                    · refine x_iconst (v := nI 5) C dX11_tags_176 (by decide +kernel) ?_
                      refine x_goto (tgt := 193) C dX11_tags_177 (by decide) ?_
                      refine x_eqi (y := nI (p252 j)) (by unfold p252; rw [if_pos (by omega)]) ?_
                      refine x_iastN C (mO.2.2 19 _ rfl).2.1 (mO.2.2 19 _ rfl).2.2 (by omega) (by omega) dX11_tags_193 (fun I7 eI7 => ?_)
                      refine x_iinc (v := nI (j + 1)) (lv' := [(2, .int (nI (j + 1))), (0, .ref (A 63)), (1, .int (nI n))]) C dX11_tags_194 0 rfl (nI_inc 1) (Nat.lt_of_lt_of_eq (by decide) hN.symm) rfl ?_
                      refine x_goto (tgt := 161) C dX11_tags_197 (by decide) ?_
                      refine x_sub (lv' := _) [0, 1, 2] rfl ?_
                      exact ih161 (j + 1) I7 (by omega) (by omega) (g_ap (f := fun t => nI (p252 t)) hP (by rw [eI7, up_eq])) (hs.u eI7 (by decide)) (hQ.u eI7 (by decide)) (by rw [eI7]; exact fJ.up (by simp))
              refine x_sub (lv' := _) [0, 1, 2] rfl ?_
              exact L161 _ 0 K0 (Nat.lt_succ_self _) (by omega) (fun t h => absurd h (by omega)) hs0 q0 fK0
            · refine x_iconst (v := nI 0) C dX11_tags_92 (by decide +kernel) ?_
              refine x_istore_n (lv' := [(3, .int (nI 0)), (2, .int (nI (16 * g))), (0, .ref (A 63)), (1, .int (nI n))]) C dX11_tags_93 rfl (Nat.lt_of_lt_of_eq (by decide) hN.symm) rfl ?_
              have L94 : ∀ (fuel_ : Nat) (j : Nat) (J : Nat → Nat → Int32), 17 - j < fuel_ → (j ≤ 17) → (∀ t, t < j → J 19 t = nI ((b17 (fun t => M (16 * g + t)) 1) t)) → (i17 J 17 s) → (i17 J 18 (b17 (clN k) 0)) → (fx [17, 18, 19, 20] I J) → hX z 0 0 (T, J, L, R, A) [(3, .int (nI j)), (2, .int (nI (16 * g))), (0, .ref (A 63)), (1, .int (nI n))] 94 [] := by
                intro fuel_
                induction fuel_ with
                | zero => intro j J hmz; exact absurd hmz (Nat.not_lt_zero _)
                | succ fuel_ ih94 =>
                  intro j J hmz hj hP hs hF fJ
                  refine x_iload_n C dX11_tags_94 0 rfl rfl ?_
                  refine x_bipush (v := nI 17) C dX11_tags_95 (by decide +kernel) ?_
                  refine x_icmp_geN (tgt := 130) C (by omega) (by omega) dX11_tags_97 (by decide) (fun c97 => ?_) (fun c97 => ?_)
                  · refine x_aload_n C dX11_tags_130 2 rfl rfl ?_
                    refine x_callV C (ok_X11_adds mO s (b17 (fun t => M (16 * g + t)) 1) hs (fun t ht => hP t (by omega)) ms.1 (b17_lt (fun j hj => (hMb (16 * g + j) (by omega)).2) (by decide))) mv_X11_adds ml_X11_347 mO.1 rfl rfl rfl (Nat.le_of_ble_eq_true rfl) (hrm (rm := { frames := 0, cells := 0, slots := 0, locals := 0 }) hZ ⟨Nat.le_of_ble_eq_true rfl, Nat.le_of_ble_eq_true rfl⟩) (hcs hZ ⟨Nat.le_of_ble_eq_true rfl, Nat.le_of_ble_eq_true rfl⟩) dX11_tags_131 (fun v G' hp => ?_)
                    obtain ⟨rfl, J1, rfl, s1, f1⟩ := hp
                    show hX z 0 0 (T, J1, L, R, A) [(3, .int (nI j)), (2, .int (nI (16 * g))), (0, .ref (A 63)), (1, .int (nI n))] 134 []
                    refine x_aload_n C dX11_tags_134 2 rfl rfl ?_
                    refine x_callV C (ok_X11_multiplies mO (adF s (b17 (fun t => M (16 * g + t)) 1)) (b17 (clN k) 0) s1 (hF.f f1 (by simp)) (fun j _ => cyB_lt _ _ j) (b17_lt (fun j hj => clN_lt (hk j (by omega)).2) (by decide))) mv_X11_multiplies ml_X11_350 mO.1 rfl rfl rfl (Nat.le_of_ble_eq_true rfl) (hrm (rm := { frames := 0, cells := 0, slots := 0, locals := 0 }) hZ ⟨Nat.le_of_ble_eq_true rfl, Nat.le_of_ble_eq_true rfl⟩) (hcs hZ ⟨Nat.le_of_ble_eq_true rfl, Nat.le_of_ble_eq_true rfl⟩) dX11_tags_135 (fun v G' hp => ?_)
                    obtain ⟨rfl, J2, rfl, s2, f2⟩ := hp
                    show hX z 0 0 (T, J2, L, R, A) [(3, .int (nI j)), (2, .int (nI (16 * g))), (0, .ref (A 63)), (1, .int (nI n))] 138 []
                    refine x_iinc (v := nI (16 * g + 16)) (lv' := [(2, .int (nI (16 * g + 16))), (3, .int (nI j)), (0, .ref (A 63)), (1, .int (nI n))]) C dX11_tags_138 1 rfl (nI_inc 16) (Nat.lt_of_lt_of_eq (by decide) hN.symm) rfl ?_
                    refine x_goto (tgt := 87) C dX11_tags_141 (by decide) ?_
                    refine x_sub (lv' := _) [0, 2, 3] rfl ?_
                    exact ih87 (g + 1) J2 (by omega) (by omega) ⟨_, s2, mS_pol ms (fun j hj => (hMb _ (by omega)).2) (b17_lt (fun j hj => clN_lt (hk j (by omega)).2) (by decide)) (by rw [bN_b17])⟩ ((hF.f f1 (by simp)).f f2 (by simp)) ((fJ.tr f1 (by simp)).tr f2 (by simp))
                  · refine x_aload_n C dX11_tags_100 2 rfl rfl ?_
                    refine x_getrN C fl_X11_137 mO.1 rfl (mO.2.2 19 _ rfl).1 dX11_tags_101 ?_
                    refine x_iload_n C dX11_tags_104 0 rfl rfl ?_
                    refine x_iload_n C dX11_tags_105 0 rfl rfl ?_
                    refine x_bipush (v := nI 16) C dX11_tags_106 (by decide +kernel) ?_
                    refine x_icmp_geN (tgt := 122) C (by omega) (by omega) dX11_tags_108 (by decide) (fun c108 => ?_) (fun c108 => ?_)
                    · refine x_iconst (v := nI 1) C dX11_tags_122 (by decide +kernel) ?_
                      refine x_eqi (y := nI ((b17 (fun t => M (16 * g + t)) 1) j)) (by unfold b17; rw [if_neg (by omega)]) ?_
                      refine x_iastN C (mO.2.2 19 _ rfl).2.1 (mO.2.2 19 _ rfl).2.2 (by omega) (by omega) dX11_tags_123 (fun I8 eI8 => ?_)
                      refine x_iinc (v := nI (j + 1)) (lv' := [(3, .int (nI (j + 1))), (2, .int (nI (16 * g))), (0, .ref (A 63)), (1, .int (nI n))]) C dX11_tags_124 0 rfl (nI_inc 1) (Nat.lt_of_lt_of_eq (by decide) hN.symm) rfl ?_
                      refine x_goto (tgt := 94) C dX11_tags_127 (by decide) ?_
                      refine x_sub (lv' := _) [0, 1, 2, 3] rfl ?_
                      exact ih94 (j + 1) I8 (by omega) (by omega) (g_ap (f := fun t => nI ((b17 (fun t => M (16 * g + t)) 1) t)) hP (by rw [eI8, up_eq])) (hs.u eI8 (by decide)) (hF.u eI8 (by decide)) (by rw [eI8]; exact fJ.up (by simp))
                    · refine x_aload_n C dX11_tags_111 2 rfl rfl ?_
                      refine x_getrN C fl_X11_146 mO.1 rfl (mO.2.2 22 _ rfl).1 dX11_tags_112 ?_
                      refine x_iload_n C dX11_tags_115 1 rfl rfl ?_
                      refine x_iload_n C dX11_tags_116 0 rfl rfl ?_
                      refine x_iaddN C dX11_tags_117 ?_
                      refine x_ialdN C (mO.2.2 22 _ rfl).2.1 (by omega) (by omega) dX11_tags_118 ?_
                      refine x_eqi (y := nI (M (16 * g + j))) (by rw [fJ 22 (by simp)]; exact (hMb _ (by omega)).1) ?_
                      refine x_goto (tgt := 123) C dX11_tags_119 (by decide) ?_
                      refine x_eqi (y := nI ((b17 (fun t => M (16 * g + t)) 1) j)) (by unfold b17; rw [if_pos (by omega)]) ?_
                      refine x_iastN C (mO.2.2 19 _ rfl).2.1 (mO.2.2 19 _ rfl).2.2 (by omega) (by omega) dX11_tags_123 (fun I9 eI9 => ?_)
                      refine x_iinc (v := nI (j + 1)) (lv' := [(3, .int (nI (j + 1))), (2, .int (nI (16 * g))), (0, .ref (A 63)), (1, .int (nI n))]) C dX11_tags_124 0 rfl (nI_inc 1) (Nat.lt_of_lt_of_eq (by decide) hN.symm) rfl ?_
                      refine x_goto (tgt := 94) C dX11_tags_127 (by decide) ?_
                      refine x_sub (lv' := _) [0, 1, 2, 3] rfl ?_
                      exact ih94 (j + 1) I9 (by omega) (by omega) (g_ap (f := fun t => nI ((b17 (fun t => M (16 * g + t)) 1) t)) hP (by rw [eI9, up_eq])) (hs.u eI9 (by decide)) (hF.u eI9 (by decide)) (by rw [eI9]; exact fJ.up (by simp))
              refine x_sub (lv' := _) [0, 1, 2, 3] rfl ?_
              exact L94 _ 0 J (Nat.lt_succ_self _) (by omega) (fun t h => absurd h (by omega)) hs hF fJ
        refine x_sub (lv' := _) [0, 1, 2] rfl ?_
        exact L87 _ 0 J (Nat.lt_succ_self _) (by omega) ⟨fun _ => 0, fun t ht => hS t (by omega), mS_0⟩ (fun t ht => hF t (by omega)) fJ
      · have hkj := (hk j (by omega)).2
        refine x_aload_n C dX11_tags_8 1 rfl rfl ?_
        refine x_getrN C fl_X11_131 mO.1 rfl (mO.2.2 17 _ rfl).1 dX11_tags_9 ?_
        refine x_iload_n C dX11_tags_12 0 rfl rfl ?_
        refine x_iconst (v := nI 0) C dX11_tags_13 (by decide +kernel) ?_
        refine x_iastN C (mO.2.2 17 _ rfl).2.1 (mO.2.2 17 _ rfl).2.2 (by omega) (by omega) dX11_tags_14 (fun I10 eI10 => ?_)
        have fS : fx [17, 18, 19, 20] I I10 := by rw [eI10]; exact fJ.up (by simp)
        refine x_aload_n C dX11_tags_15 1 rfl rfl ?_
        refine x_getrN C fl_X11_134 mO.1 rfl (mO.2.2 18 _ rfl).1 dX11_tags_16 ?_
        refine x_iload_n C dX11_tags_19 0 rfl rfl ?_
        refine x_iload_n C dX11_tags_20 0 rfl rfl ?_
        refine x_bipush (v := nI 16) C dX11_tags_21 (by decide +kernel) ?_
        refine x_icmp_neN (tgt := 30) C (by omega) (by omega) dX11_tags_23 (by decide) (fun c23 => ?_) (fun c23 => ?_)
        · refine x_iload_n C dX11_tags_30 0 rfl rfl ?_
          refine x_iconst (v := nI 4) C dX11_tags_31 (by decide +kernel) ?_
          refine x_iremN C (by omega) (by omega) (by omega) dX11_tags_32 ?_
          refine x_iconst (v := nI 3) C dX11_tags_33 (by decide +kernel) ?_
          refine x_icmp_neN (tgt := 49) C (by omega) (by omega) dX11_tags_34 (by decide) (fun c34 => ?_) (fun c34 => ?_)
          · refine x_iload_n C dX11_tags_49 0 rfl rfl ?_
            refine x_if_leN (tgt := 72) C (by omega) dX11_tags_50 (by decide) (fun c50 => ?_) (fun c50 => ?_)
            · refine x_aload_n C dX11_tags_72 1 rfl rfl ?_
              refine x_getrN C fl_X11_143 mO.1 rfl (mO.2.2 21 _ rfl).1 dX11_tags_73 ?_
              refine x_iload_n C dX11_tags_76 0 rfl rfl ?_
              refine x_ialdN C (mO.2.2 21 _ rfl).2.1 (by omega) (by omega) dX11_tags_77 ?_
              refine x_eqi (y := nI (k j)) (by rw [fS 21 (by simp)]; exact (hk j (by omega)).1) ?_
              refine x_eqi (y := nI ((b17 (clN k) 0) j)) (by unfold b17 clN; rw [if_pos (by omega), if_neg (by omega), if_neg (by omega)]) ?_
              refine x_iastN C (mO.2.2 18 _ rfl).2.1 (mO.2.2 18 _ rfl).2.2 (by omega) (by omega) dX11_tags_78 (fun I11 eI11 => ?_)
              refine x_iinc (v := nI (j + 1)) (lv' := [(2, .int (nI (j + 1))), (0, .ref (A 63)), (1, .int (nI n))]) C dX11_tags_79 0 rfl (nI_inc 1) (Nat.lt_of_lt_of_eq (by decide) hN.symm) rfl ?_
              refine x_goto (tgt := 2) C dX11_tags_82 (by decide) ?_
              refine x_sub (lv' := _) [0, 1, 2] rfl ?_
              exact ih2 (j + 1) I11 (by omega) (by omega) (g_ap (f := fun t => nI ((fun _ => 0) t)) hS (by rw [eI11, up_ne _ _ (by decide), eI10, up_eq])) (g_ap (f := fun t => nI ((b17 (clN k) 0) t)) hF (by rw [eI11, up_eq, eI10, up_ne _ _ (by decide)])) (by rw [eI11]; exact fS.up (by simp))
            · refine x_iload_n C dX11_tags_53 0 rfl rfl ?_
              refine x_iconst (v := nI 4) C dX11_tags_54 (by decide +kernel) ?_
              refine x_iremN C (by omega) (by omega) (by omega) dX11_tags_55 ?_
              refine x_if_neN (tgt := 72) C (by omega) dX11_tags_56 (by decide) (fun c56 => ?_) (fun c56 => ?_)
              · refine x_aload_n C dX11_tags_72 1 rfl rfl ?_
                refine x_getrN C fl_X11_143 mO.1 rfl (mO.2.2 21 _ rfl).1 dX11_tags_73 ?_
                refine x_iload_n C dX11_tags_76 0 rfl rfl ?_
                refine x_ialdN C (mO.2.2 21 _ rfl).2.1 (by omega) (by omega) dX11_tags_77 ?_
                refine x_eqi (y := nI (k j)) (by rw [fS 21 (by simp)]; exact (hk j (by omega)).1) ?_
                refine x_eqi (y := nI ((b17 (clN k) 0) j)) (by unfold b17 clN; rw [if_pos (by omega), if_neg (by omega), if_neg (by omega)]) ?_
                refine x_iastN C (mO.2.2 18 _ rfl).2.1 (mO.2.2 18 _ rfl).2.2 (by omega) (by omega) dX11_tags_78 (fun I12 eI12 => ?_)
                refine x_iinc (v := nI (j + 1)) (lv' := [(2, .int (nI (j + 1))), (0, .ref (A 63)), (1, .int (nI n))]) C dX11_tags_79 0 rfl (nI_inc 1) (Nat.lt_of_lt_of_eq (by decide) hN.symm) rfl ?_
                refine x_goto (tgt := 2) C dX11_tags_82 (by decide) ?_
                refine x_sub (lv' := _) [0, 1, 2] rfl ?_
                exact ih2 (j + 1) I12 (by omega) (by omega) (g_ap (f := fun t => nI ((fun _ => 0) t)) hS (by rw [eI12, up_ne _ _ (by decide), eI10, up_eq])) (g_ap (f := fun t => nI ((b17 (clN k) 0) t)) hF (by rw [eI12, up_eq, eI10, up_ne _ _ (by decide)])) (by rw [eI12]; exact fS.up (by simp))
              · refine x_aload_n C dX11_tags_59 1 rfl rfl ?_
                refine x_getrN C fl_X11_143 mO.1 rfl (mO.2.2 21 _ rfl).1 dX11_tags_60 ?_
                refine x_iload_n C dX11_tags_63 0 rfl rfl ?_
                refine x_ialdN C (mO.2.2 21 _ rfl).2.1 (by omega) (by omega) dX11_tags_64 ?_
                refine x_eqi (y := nI (k j)) (by rw [fS 21 (by simp)]; exact (hk j (by omega)).1) ?_
                refine x_sipush (v := nI 252) C dX11_tags_65 (by decide +kernel) ?_
                refine x_iand C dX11_tags_68 ?_
                refine x_goto (tgt := 78) C dX11_tags_69 (by decide) ?_
                refine x_eqi (y := nI ((b17 (clN k) 0) j)) (by rw [and252 _ (hk j (by omega)).2]; unfold b17 clN; rw [if_pos (by omega), if_neg (by omega), if_pos (by omega)]) ?_
                refine x_iastN C (mO.2.2 18 _ rfl).2.1 (mO.2.2 18 _ rfl).2.2 (by omega) (by omega) dX11_tags_78 (fun I13 eI13 => ?_)
                refine x_iinc (v := nI (j + 1)) (lv' := [(2, .int (nI (j + 1))), (0, .ref (A 63)), (1, .int (nI n))]) C dX11_tags_79 0 rfl (nI_inc 1) (Nat.lt_of_lt_of_eq (by decide) hN.symm) rfl ?_
                refine x_goto (tgt := 2) C dX11_tags_82 (by decide) ?_
                refine x_sub (lv' := _) [0, 1, 2] rfl ?_
                exact ih2 (j + 1) I13 (by omega) (by omega) (g_ap (f := fun t => nI ((fun _ => 0) t)) hS (by rw [eI13, up_ne _ _ (by decide), eI10, up_eq])) (g_ap (f := fun t => nI ((b17 (clN k) 0) t)) hF (by rw [eI13, up_eq, eI10, up_ne _ _ (by decide)])) (by rw [eI13]; exact fS.up (by simp))
          · refine x_aload_n C dX11_tags_37 1 rfl rfl ?_
            refine x_getrN C fl_X11_143 mO.1 rfl (mO.2.2 21 _ rfl).1 dX11_tags_38 ?_
            refine x_iload_n C dX11_tags_41 0 rfl rfl ?_
            refine x_ialdN C (mO.2.2 21 _ rfl).2.1 (by omega) (by omega) dX11_tags_42 ?_
            refine x_eqi (y := nI (k j)) (by rw [fS 21 (by simp)]; exact (hk j (by omega)).1) ?_
            refine x_bipush (v := nI 15) C dX11_tags_43 (by decide +kernel) ?_
            refine x_iandN (q := 4) C (by omega) (by omega) rfl dX11_tags_45 ?_
            refine x_goto (tgt := 78) C dX11_tags_46 (by decide) ?_
            refine x_eqi (y := nI ((b17 (clN k) 0) j)) (by unfold b17 clN; rw [if_pos (by omega), if_pos (by omega)]) ?_
            refine x_iastN C (mO.2.2 18 _ rfl).2.1 (mO.2.2 18 _ rfl).2.2 (by omega) (by omega) dX11_tags_78 (fun I14 eI14 => ?_)
            refine x_iinc (v := nI (j + 1)) (lv' := [(2, .int (nI (j + 1))), (0, .ref (A 63)), (1, .int (nI n))]) C dX11_tags_79 0 rfl (nI_inc 1) (Nat.lt_of_lt_of_eq (by decide) hN.symm) rfl ?_
            refine x_goto (tgt := 2) C dX11_tags_82 (by decide) ?_
            refine x_sub (lv' := _) [0, 1, 2] rfl ?_
            exact ih2 (j + 1) I14 (by omega) (by omega) (g_ap (f := fun t => nI ((fun _ => 0) t)) hS (by rw [eI14, up_ne _ _ (by decide), eI10, up_eq])) (g_ap (f := fun t => nI ((b17 (clN k) 0) t)) hF (by rw [eI14, up_eq, eI10, up_ne _ _ (by decide)])) (by rw [eI14]; exact fS.up (by simp))
        · refine x_iconst (v := nI 0) C dX11_tags_26 (by decide +kernel) ?_
          refine x_goto (tgt := 78) C dX11_tags_27 (by decide) ?_
          refine x_eqi (y := nI ((b17 (clN k) 0) j)) (by rw [show j = 16 by omega]; rfl) ?_
          refine x_iastN C (mO.2.2 18 _ rfl).2.1 (mO.2.2 18 _ rfl).2.2 (by omega) (by omega) dX11_tags_78 (fun I15 eI15 => ?_)
          refine x_iinc (v := nI (j + 1)) (lv' := [(2, .int (nI (j + 1))), (0, .ref (A 63)), (1, .int (nI n))]) C dX11_tags_79 0 rfl (nI_inc 1) (Nat.lt_of_lt_of_eq (by decide) hN.symm) rfl ?_
          refine x_goto (tgt := 2) C dX11_tags_82 (by decide) ?_
          refine x_sub (lv' := _) [0, 1, 2] rfl ?_
          exact ih2 (j + 1) I15 (by omega) (by omega) (g_ap (f := fun t => nI ((fun _ => 0) t)) hS (by rw [eI15, up_ne _ _ (by decide), eI10, up_eq])) (g_ap (f := fun t => nI ((b17 (clN k) 0) t)) hF (by rw [eI15, up_eq, eI10, up_ne _ _ (by decide)])) (by rw [eI15]; exact fS.up (by simp))
  refine x_sub (lv' := _) [0, 1, 2] rfl ?_
  exact L2 _ 0 I (Nat.lt_succ_self _) (by omega) (fun t h => absurd h (by omega)) (fun t h => absurd h (by omega)) fx.rf

