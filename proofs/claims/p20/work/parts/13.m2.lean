theorem up_self {α : Type} (f : Nat → α) (k : Nat) : va_up f k (f k) = f := by
  funext x; by_cases h : x = k
  · subst h; rw [va_up_same]
  · rw [va_up_other _ _ h]
set_option maxHeartbeats 4000000 in
set_option maxRecDepth 100000 in
theorem ok_X5_addBlock {l : Launch} {a0 : Nat} {D : va_G} {sa : Nat → Nat} {T : Nat → Option hKd} {I : Nat → Nat → Int32} {L : Nat → Nat → Int64} {R : Nat → Nat → Option Nat} {A : Nat → Nat}(h s w : Nat) (hTh : T h = some (.inr 5)) (hRs : R h 0 = some s) (hRw : R h 1 = some w) (hTs : T s = some (.inl (.int, 8))) (hTw : T w = some (.inl (.int, 64))) (hh0 : a0 ≤ A h) (hs0 : a0 ≤ A s) (hw0 : a0 ≤ A w) (hhs : h ≠ s) (hhw : h ≠ w) (hsw : s ≠ w)(hsa : ∀ k, k < 5 → sa k = A (90 + k)) (hT92 : T 92 = some (.inl (.int, 64))) (h92 : ∀ t, t < 64 → I 92 t = kSha t) (n92 : 92 ≠ s ∧ 92 ≠ w ∧ 92 ≠ h) : hM l a0 D sa yX5_addBlock cX5_addBlock 14 none { frames := 0, cells := 0, slots := 0, locals := 0 } [.ref (A h)] (T, I, L, R, A) (fun r G' => r = none ∧ G' = (T, va_up (va_up I w (sW (I w) 48)) s (shaB (I s) (I w)), L, R, A)) := by
  refine hM.of (by decide +kernel) (Nat.le_of_ble_eq_true rfl) ?_
  intro z hl h0 hD hS hN C E
  subst hl; subst h0; subst hD; subst hS
  have C : hC z RX5 cX5_addBlock := C
  have hZ := E.2.2.2.1
  show hX z 0 0 (T, I, L, R, A) [(0, .ref (A h))] 0 []
  refine x_bipush (v := nI 16) C dX5_addBlock_0 (by decide +kernel) ?_
  refine x_istore_n (lv' := [(1, .int (nI 16)), (0, .ref (A h))]) C dX5_addBlock_2 rfl (Nat.lt_of_lt_of_eq (by decide) hN.symm) rfl ?_
  have L3 : ∀ (f : Nat) (i : Nat) (J : Nat → Nat → Int32), 64 - i < f → 16 ≤ i → i ≤ 64 → J = va_up I w (sW (I w) (i - 16)) → hX z 0 0 (T, J, L, R, A) [(1, .int (nI i)), (0, .ref (A h))] 3 [] := by
    intro f
    induction f with
    | zero => intro i J hm; exact absurd hm (Nat.not_lt_zero _)
    | succ f ih3 =>
      intro i J hm hi hi2 hJ
      refine x_iload_n C dX5_addBlock_3 0 rfl rfl ?_
      refine x_bipush (v := nI 64) C dX5_addBlock_4 (by decide +kernel) ?_
      refine x_icmp_geN (tgt := 116) C (by omega) (by omega) dX5_addBlock_6 (by decide) (fun c6 => ?_) (fun c6 => ?_)
      · refine x_aload_n C dX5_addBlock_116 1 rfl rfl ?_
        refine x_getrN C fl_X5_9 hTh rfl hRs dX5_addBlock_117 ?_
        refine x_iconst (v := nI 0) C dX5_addBlock_120 (by decide +kernel) ?_
        refine x_ialdN C hTs (by omega) (by omega) dX5_addBlock_121 ?_
        refine x_istore_n (lv' := [(1, .int (J s 0)), (0, .ref (A h))]) C dX5_addBlock_122 rfl (Nat.lt_of_lt_of_eq (by decide) hN.symm) rfl ?_
        refine x_aload_n C dX5_addBlock_123 1 rfl rfl ?_
        refine x_getrN C fl_X5_9 hTh rfl hRs dX5_addBlock_124 ?_
        refine x_iconst (v := nI 1) C dX5_addBlock_127 (by decide +kernel) ?_
        refine x_ialdN C hTs (by omega) (by omega) dX5_addBlock_128 ?_
        refine x_istore_n (lv' := [(2, .int (J s 1)), (1, .int (J s 0)), (0, .ref (A h))]) C dX5_addBlock_129 rfl (Nat.lt_of_lt_of_eq (by decide) hN.symm) rfl ?_
        refine x_aload_n C dX5_addBlock_130 2 rfl rfl ?_
        refine x_getrN C fl_X5_9 hTh rfl hRs dX5_addBlock_131 ?_
        refine x_iconst (v := nI 2) C dX5_addBlock_134 (by decide +kernel) ?_
        refine x_ialdN C hTs (by omega) (by omega) dX5_addBlock_135 ?_
        refine x_istore_n (lv' := [(3, .int (J s 2)), (2, .int (J s 1)), (1, .int (J s 0)), (0, .ref (A h))]) C dX5_addBlock_136 rfl (Nat.lt_of_lt_of_eq (by decide) hN.symm) rfl ?_
        refine x_aload_n C dX5_addBlock_137 3 rfl rfl ?_
        refine x_getrN C fl_X5_9 hTh rfl hRs dX5_addBlock_138 ?_
        refine x_iconst (v := nI 3) C dX5_addBlock_141 (by decide +kernel) ?_
        refine x_ialdN C hTs (by omega) (by omega) dX5_addBlock_142 ?_
        refine x_istore (lv' := [(4, .int (J s 3)), (3, .int (J s 2)), (2, .int (J s 1)), (1, .int (J s 0)), (0, .ref (A h))]) C dX5_addBlock_143 (Nat.lt_of_lt_of_eq (by decide) hN.symm) rfl ?_
        refine x_aload_n C dX5_addBlock_145 4 rfl rfl ?_
        refine x_getrN C fl_X5_9 hTh rfl hRs dX5_addBlock_146 ?_
        refine x_iconst (v := nI 4) C dX5_addBlock_149 (by decide +kernel) ?_
        refine x_ialdN C hTs (by omega) (by omega) dX5_addBlock_150 ?_
        refine x_istore (lv' := [(5, .int (J s 4)), (4, .int (J s 3)), (3, .int (J s 2)), (2, .int (J s 1)), (1, .int (J s 0)), (0, .ref (A h))]) C dX5_addBlock_151 (Nat.lt_of_lt_of_eq (by decide) hN.symm) rfl ?_
        refine x_aload_n C dX5_addBlock_153 5 rfl rfl ?_
        refine x_getrN C fl_X5_9 hTh rfl hRs dX5_addBlock_154 ?_
        refine x_iconst (v := nI 5) C dX5_addBlock_157 (by decide +kernel) ?_
        refine x_ialdN C hTs (by omega) (by omega) dX5_addBlock_158 ?_
        refine x_istore (lv' := [(6, .int (J s 5)), (5, .int (J s 4)), (4, .int (J s 3)), (3, .int (J s 2)), (2, .int (J s 1)), (1, .int (J s 0)), (0, .ref (A h))]) C dX5_addBlock_159 (Nat.lt_of_lt_of_eq (by decide) hN.symm) rfl ?_
        refine x_aload_n C dX5_addBlock_161 6 rfl rfl ?_
        refine x_getrN C fl_X5_9 hTh rfl hRs dX5_addBlock_162 ?_
        refine x_bipush (v := nI 6) C dX5_addBlock_165 (by decide +kernel) ?_
        refine x_ialdN C hTs (by omega) (by omega) dX5_addBlock_167 ?_
        refine x_istore (lv' := [(7, .int (J s 6)), (6, .int (J s 5)), (5, .int (J s 4)), (4, .int (J s 3)), (3, .int (J s 2)), (2, .int (J s 1)), (1, .int (J s 0)), (0, .ref (A h))]) C dX5_addBlock_168 (Nat.lt_of_lt_of_eq (by decide) hN.symm) rfl ?_
        refine x_aload_n C dX5_addBlock_170 7 rfl rfl ?_
        refine x_getrN C fl_X5_9 hTh rfl hRs dX5_addBlock_171 ?_
        refine x_bipush (v := nI 7) C dX5_addBlock_174 (by decide +kernel) ?_
        refine x_ialdN C hTs (by omega) (by omega) dX5_addBlock_176 ?_
        refine x_istore (lv' := [(8, .int (J s 7)), (7, .int (J s 6)), (6, .int (J s 5)), (5, .int (J s 4)), (4, .int (J s 3)), (3, .int (J s 2)), (2, .int (J s 1)), (1, .int (J s 0)), (0, .ref (A h))]) C dX5_addBlock_177 (Nat.lt_of_lt_of_eq (by decide) hN.symm) rfl ?_
        refine x_iconst (v := nI 0) C dX5_addBlock_179 (by decide +kernel) ?_
        refine x_istore (lv' := [(9, .int (nI 0)), (8, .int (J s 7)), (7, .int (J s 6)), (6, .int (J s 5)), (5, .int (J s 4)), (4, .int (J s 3)), (3, .int (J s 2)), (2, .int (J s 1)), (1, .int (J s 0)), (0, .ref (A h))]) C dX5_addBlock_180 (Nat.lt_of_lt_of_eq (by decide) hN.symm) rfl ?_
        have L182 : ∀ (f : Nat) (t : Nat) (a : Int32) (b : Int32) (c : Int32) (d : Int32) (e : Int32) (f0 : Int32) (g : Int32) (k : Int32), 64 - t < f → t ≤ 64 → sR (J w) (sI (J s)) t = (a, b, c, d, e, f0, g, k) → hX z 0 0 (T, J, L, R, A) [(9, .int (nI t)), (8, .int k), (7, .int g), (6, .int f0), (5, .int e), (4, .int d), (3, .int c), (2, .int b), (1, .int a), (0, .ref (A h))] 182 [] := by
          intro f
          induction f with
          | zero => intro t a b c d e f0 g k hm; exact absurd hm (Nat.not_lt_zero _)
          | succ f ih182 =>
            intro t a b c d e f0 g k hm ht hr
            refine x_iload C dX5_addBlock_182 0 rfl ?_
            refine x_bipush (v := nI 64) C dX5_addBlock_184 (by decide +kernel) ?_
            refine x_icmp_geN (tgt := 346) C (by omega) (by omega) dX5_addBlock_186 (by decide) (fun c186 => ?_) (fun c186 => ?_)
            · refine x_aload_n C dX5_addBlock_346 9 rfl rfl ?_
              refine x_getrN C fl_X5_9 hTh rfl hRs dX5_addBlock_347 ?_
              refine x_iconst (v := nI 0) C dX5_addBlock_350 (by decide +kernel) ?_
              refine x_dup2 C dX5_addBlock_351 rfl rfl ?_
              refine x_ialdN C hTs (by omega) (by omega) dX5_addBlock_352 ?_
              refine x_iload_n C dX5_addBlock_353 8 rfl rfl ?_
              refine x_iadd C dX5_addBlock_354 ?_
              refine x_iastN C hTs hs0 (by omega) (by omega) dX5_addBlock_355 (fun I1 eI1 => ?_)
              refine x_aload_n C dX5_addBlock_356 9 rfl rfl ?_
              refine x_getrN C fl_X5_9 hTh rfl hRs dX5_addBlock_357 ?_
              refine x_iconst (v := nI 1) C dX5_addBlock_360 (by decide +kernel) ?_
              refine x_dup2 C dX5_addBlock_361 rfl rfl ?_
              refine x_ialdN C hTs (by omega) (by omega) dX5_addBlock_362 ?_
              refine x_iload_n C dX5_addBlock_363 7 rfl rfl ?_
              refine x_iadd C dX5_addBlock_364 ?_
              refine x_iastN C hTs hs0 (by omega) (by omega) dX5_addBlock_365 (fun I2 eI2 => ?_)
              refine x_aload_n C dX5_addBlock_366 9 rfl rfl ?_
              refine x_getrN C fl_X5_9 hTh rfl hRs dX5_addBlock_367 ?_
              refine x_iconst (v := nI 2) C dX5_addBlock_370 (by decide +kernel) ?_
              refine x_dup2 C dX5_addBlock_371 rfl rfl ?_
              refine x_ialdN C hTs (by omega) (by omega) dX5_addBlock_372 ?_
              refine x_iload_n C dX5_addBlock_373 6 rfl rfl ?_
              refine x_iadd C dX5_addBlock_374 ?_
              refine x_iastN C hTs hs0 (by omega) (by omega) dX5_addBlock_375 (fun I3 eI3 => ?_)
              refine x_aload_n C dX5_addBlock_376 9 rfl rfl ?_
              refine x_getrN C fl_X5_9 hTh rfl hRs dX5_addBlock_377 ?_
              refine x_iconst (v := nI 3) C dX5_addBlock_380 (by decide +kernel) ?_
              refine x_dup2 C dX5_addBlock_381 rfl rfl ?_
              refine x_ialdN C hTs (by omega) (by omega) dX5_addBlock_382 ?_
              refine x_iload C dX5_addBlock_383 5 rfl ?_
              refine x_iadd C dX5_addBlock_385 ?_
              refine x_iastN C hTs hs0 (by omega) (by omega) dX5_addBlock_386 (fun I4 eI4 => ?_)
              refine x_aload_n C dX5_addBlock_387 9 rfl rfl ?_
              refine x_getrN C fl_X5_9 hTh rfl hRs dX5_addBlock_388 ?_
              refine x_iconst (v := nI 4) C dX5_addBlock_391 (by decide +kernel) ?_
              refine x_dup2 C dX5_addBlock_392 rfl rfl ?_
              refine x_ialdN C hTs (by omega) (by omega) dX5_addBlock_393 ?_
              refine x_iload C dX5_addBlock_394 4 rfl ?_
              refine x_iadd C dX5_addBlock_396 ?_
              refine x_iastN C hTs hs0 (by omega) (by omega) dX5_addBlock_397 (fun I5 eI5 => ?_)
              refine x_aload_n C dX5_addBlock_398 9 rfl rfl ?_
              refine x_getrN C fl_X5_9 hTh rfl hRs dX5_addBlock_399 ?_
              refine x_iconst (v := nI 5) C dX5_addBlock_402 (by decide +kernel) ?_
              refine x_dup2 C dX5_addBlock_403 rfl rfl ?_
              refine x_ialdN C hTs (by omega) (by omega) dX5_addBlock_404 ?_
              refine x_iload C dX5_addBlock_405 3 rfl ?_
              refine x_iadd C dX5_addBlock_407 ?_
              refine x_iastN C hTs hs0 (by omega) (by omega) dX5_addBlock_408 (fun I6 eI6 => ?_)
              refine x_aload_n C dX5_addBlock_409 9 rfl rfl ?_
              refine x_getrN C fl_X5_9 hTh rfl hRs dX5_addBlock_410 ?_
              refine x_bipush (v := nI 6) C dX5_addBlock_413 (by decide +kernel) ?_
              refine x_dup2 C dX5_addBlock_415 rfl rfl ?_
              refine x_ialdN C hTs (by omega) (by omega) dX5_addBlock_416 ?_
              refine x_iload C dX5_addBlock_417 2 rfl ?_
              refine x_iadd C dX5_addBlock_419 ?_
              refine x_iastN C hTs hs0 (by omega) (by omega) dX5_addBlock_420 (fun I7 eI7 => ?_)
              refine x_aload_n C dX5_addBlock_421 9 rfl rfl ?_
              refine x_getrN C fl_X5_9 hTh rfl hRs dX5_addBlock_422 ?_
              refine x_bipush (v := nI 7) C dX5_addBlock_425 (by decide +kernel) ?_
              refine x_dup2 C dX5_addBlock_427 rfl rfl ?_
              refine x_ialdN C hTs (by omega) (by omega) dX5_addBlock_428 ?_
              refine x_iload C dX5_addBlock_429 1 rfl ?_
              refine x_iadd C dX5_addBlock_431 ?_
              refine x_iastN C hTs hs0 (by omega) (by omega) dX5_addBlock_432 (fun I8 eI8 => ?_)
              exact x_vret C E (Nat.le_of_ble_eq_true rfl) (Nat.le_of_ble_eq_true rfl) dX5_addBlock_433 (⟨rfl, by
            have hi3 : i = 64 := by omega
            have ht3 : t = 64 := by omega
            subst hi3; subst ht3
            have e1 : J w = sW (I w) 48 := by rw [hJ, up_eq]
            have e2 : J s = I s := by rw [hJ, up_ne _ _ hsw]
            rw [e1, e2] at hr
            simp only [eI1, eI2, eI3, eI4, eI5, eI6, eI7, eI8, up_eq, up_up, e2]
            rw [hJ]
            unfold shaB
            rw [hr]
            rfl⟩)
            · refine x_iload C dX5_addBlock_189 4 rfl ?_
              refine x_bipush (v := nI 6) C dX5_addBlock_191 (by decide +kernel) ?_
              refine x_iushr C dX5_addBlock_193 ?_
              refine x_iload C dX5_addBlock_194 4 rfl ?_
              refine x_bipush (v := nI 26) C dX5_addBlock_196 (by decide +kernel) ?_
              refine x_ishl C dX5_addBlock_198 ?_
              refine x_ior C dX5_addBlock_199 ?_
              refine x_iload C dX5_addBlock_200 4 rfl ?_
              refine x_bipush (v := nI 11) C dX5_addBlock_202 (by decide +kernel) ?_
              refine x_iushr C dX5_addBlock_204 ?_
              refine x_iload C dX5_addBlock_205 4 rfl ?_
              refine x_bipush (v := nI 21) C dX5_addBlock_207 (by decide +kernel) ?_
              refine x_ishl C dX5_addBlock_209 ?_
              refine x_ior C dX5_addBlock_210 ?_
              refine x_ixor C dX5_addBlock_211 ?_
              refine x_iload C dX5_addBlock_212 4 rfl ?_
              refine x_bipush (v := nI 25) C dX5_addBlock_214 (by decide +kernel) ?_
              refine x_iushr C dX5_addBlock_216 ?_
              refine x_iload C dX5_addBlock_217 4 rfl ?_
              refine x_bipush (v := nI 7) C dX5_addBlock_219 (by decide +kernel) ?_
              refine x_ishl C dX5_addBlock_221 ?_
              refine x_ior C dX5_addBlock_222 ?_
              refine x_ixor C dX5_addBlock_223 ?_
              refine x_istore (lv' := [(10, .int ((((iusr e (nI 6)) ||| (isl e (nI 26))) ^^^ ((iusr e (nI 11)) ||| (isl e (nI 21)))) ^^^ ((iusr e (nI 25)) ||| (isl e (nI 7))))), (9, .int (nI t)), (8, .int k), (7, .int g), (6, .int f0), (5, .int e), (4, .int d), (3, .int c), (2, .int b), (1, .int a), (0, .ref (A h))]) C dX5_addBlock_224 (Nat.lt_of_lt_of_eq (by decide) hN.symm) rfl ?_
              refine x_iload_n C dX5_addBlock_226 9 rfl rfl ?_
              refine x_iconst (v := nI 2) C dX5_addBlock_227 (by decide +kernel) ?_
              refine x_iushr C dX5_addBlock_228 ?_
              refine x_iload_n C dX5_addBlock_229 9 rfl rfl ?_
              refine x_bipush (v := nI 30) C dX5_addBlock_230 (by decide +kernel) ?_
              refine x_ishl C dX5_addBlock_232 ?_
              refine x_ior C dX5_addBlock_233 ?_
              refine x_iload_n C dX5_addBlock_234 9 rfl rfl ?_
              refine x_bipush (v := nI 13) C dX5_addBlock_235 (by decide +kernel) ?_
              refine x_iushr C dX5_addBlock_237 ?_
              refine x_iload_n C dX5_addBlock_238 9 rfl rfl ?_
              refine x_bipush (v := nI 19) C dX5_addBlock_239 (by decide +kernel) ?_
              refine x_ishl C dX5_addBlock_241 ?_
              refine x_ior C dX5_addBlock_242 ?_
              refine x_ixor C dX5_addBlock_243 ?_
              refine x_iload_n C dX5_addBlock_244 9 rfl rfl ?_
              refine x_bipush (v := nI 22) C dX5_addBlock_245 (by decide +kernel) ?_
              refine x_iushr C dX5_addBlock_247 ?_
              refine x_iload_n C dX5_addBlock_248 9 rfl rfl ?_
              refine x_bipush (v := nI 10) C dX5_addBlock_249 (by decide +kernel) ?_
              refine x_ishl C dX5_addBlock_251 ?_
              refine x_ior C dX5_addBlock_252 ?_
              refine x_ixor C dX5_addBlock_253 ?_
              refine x_istore (lv' := [(11, .int ((((iusr a (nI 2)) ||| (isl a (nI 30))) ^^^ ((iusr a (nI 13)) ||| (isl a (nI 19)))) ^^^ ((iusr a (nI 22)) ||| (isl a (nI 10))))), (10, .int ((((iusr e (nI 6)) ||| (isl e (nI 26))) ^^^ ((iusr e (nI 11)) ||| (isl e (nI 21)))) ^^^ ((iusr e (nI 25)) ||| (isl e (nI 7))))), (9, .int (nI t)), (8, .int k), (7, .int g), (6, .int f0), (5, .int e), (4, .int d), (3, .int c), (2, .int b), (1, .int a), (0, .ref (A h))]) C dX5_addBlock_254 (Nat.lt_of_lt_of_eq (by decide) hN.symm) rfl ?_
              refine x_iload C dX5_addBlock_256 3 rfl ?_
              refine x_iload C dX5_addBlock_258 1 rfl ?_
              refine x_iadd C dX5_addBlock_260 ?_
              refine x_iload C dX5_addBlock_261 6 rfl ?_
              refine x_iload C dX5_addBlock_263 5 rfl ?_
              refine x_iand C dX5_addBlock_265 ?_
              refine x_iload C dX5_addBlock_266 6 rfl ?_
              refine x_iconst (v := (-1)) C dX5_addBlock_268 (by decide +kernel) ?_
              refine x_ixor C dX5_addBlock_269 ?_
              refine x_iload C dX5_addBlock_270 4 rfl ?_
              refine x_iand C dX5_addBlock_272 ?_
              refine x_ixor C dX5_addBlock_273 ?_
              refine x_iadd C dX5_addBlock_274 ?_
              refine x_getsN (k := 2) C (hsa 2 (by decide)) rfl sl_X5_41 dX5_addBlock_275 ?_
              refine x_iload C dX5_addBlock_278 2 rfl ?_
              refine x_ialdN C hT92 (by omega) (by omega) dX5_addBlock_280 ?_
              refine x_iadd C dX5_addBlock_281 ?_
              refine x_aload_n C dX5_addBlock_282 11 rfl rfl ?_
              refine x_getrN C fl_X5_15 hTh rfl hRw dX5_addBlock_283 ?_
              refine x_iload C dX5_addBlock_286 2 rfl ?_
              refine x_ialdN C hTw (by omega) (by omega) dX5_addBlock_288 ?_
              refine x_iadd C dX5_addBlock_289 ?_
              refine x_istore (lv' := [(12, .int ((((k + ((((iusr e (nI 6)) ||| (isl e (nI 26))) ^^^ ((iusr e (nI 11)) ||| (isl e (nI 21)))) ^^^ ((iusr e (nI 25)) ||| (isl e (nI 7))))) + ((e &&& f0) ^^^ ((e ^^^ (-1)) &&& g))) + (J 92 t)) + (J w t))), (11, .int ((((iusr a (nI 2)) ||| (isl a (nI 30))) ^^^ ((iusr a (nI 13)) ||| (isl a (nI 19)))) ^^^ ((iusr a (nI 22)) ||| (isl a (nI 10))))), (10, .int ((((iusr e (nI 6)) ||| (isl e (nI 26))) ^^^ ((iusr e (nI 11)) ||| (isl e (nI 21)))) ^^^ ((iusr e (nI 25)) ||| (isl e (nI 7))))), (9, .int (nI t)), (8, .int k), (7, .int g), (6, .int f0), (5, .int e), (4, .int d), (3, .int c), (2, .int b), (1, .int a), (0, .ref (A h))]) C dX5_addBlock_290 (Nat.lt_of_lt_of_eq (by decide) hN.symm) rfl ?_
              refine x_iload C dX5_addBlock_292 1 rfl ?_
              refine x_iload_n C dX5_addBlock_294 11 rfl rfl ?_
              refine x_iload_n C dX5_addBlock_295 10 rfl rfl ?_
              refine x_iand C dX5_addBlock_296 ?_
              refine x_iload_n C dX5_addBlock_297 11 rfl rfl ?_
              refine x_iload_n C dX5_addBlock_298 9 rfl rfl ?_
              refine x_iand C dX5_addBlock_299 ?_
              refine x_ixor C dX5_addBlock_300 ?_
              refine x_iload_n C dX5_addBlock_301 10 rfl rfl ?_
              refine x_iload_n C dX5_addBlock_302 9 rfl rfl ?_
              refine x_iand C dX5_addBlock_303 ?_
              refine x_ixor C dX5_addBlock_304 ?_
              refine x_iadd C dX5_addBlock_305 ?_
              refine x_istore (lv' := [(13, .int (((((iusr a (nI 2)) ||| (isl a (nI 30))) ^^^ ((iusr a (nI 13)) ||| (isl a (nI 19)))) ^^^ ((iusr a (nI 22)) ||| (isl a (nI 10)))) + (((a &&& b) ^^^ (a &&& c)) ^^^ (b &&& c)))), (12, .int ((((k + ((((iusr e (nI 6)) ||| (isl e (nI 26))) ^^^ ((iusr e (nI 11)) ||| (isl e (nI 21)))) ^^^ ((iusr e (nI 25)) ||| (isl e (nI 7))))) + ((e &&& f0) ^^^ ((e ^^^ (-1)) &&& g))) + (J 92 t)) + (J w t))), (11, .int ((((iusr a (nI 2)) ||| (isl a (nI 30))) ^^^ ((iusr a (nI 13)) ||| (isl a (nI 19)))) ^^^ ((iusr a (nI 22)) ||| (isl a (nI 10))))), (10, .int ((((iusr e (nI 6)) ||| (isl e (nI 26))) ^^^ ((iusr e (nI 11)) ||| (isl e (nI 21)))) ^^^ ((iusr e (nI 25)) ||| (isl e (nI 7))))), (9, .int (nI t)), (8, .int k), (7, .int g), (6, .int f0), (5, .int e), (4, .int d), (3, .int c), (2, .int b), (1, .int a), (0, .ref (A h))]) C dX5_addBlock_306 (Nat.lt_of_lt_of_eq (by decide) hN.symm) rfl ?_
              refine x_iload C dX5_addBlock_308 6 rfl ?_
              refine x_istore (lv' := [(8, .int g), (13, .int (((((iusr a (nI 2)) ||| (isl a (nI 30))) ^^^ ((iusr a (nI 13)) ||| (isl a (nI 19)))) ^^^ ((iusr a (nI 22)) ||| (isl a (nI 10)))) + (((a &&& b) ^^^ (a &&& c)) ^^^ (b &&& c)))), (12, .int ((((k + ((((iusr e (nI 6)) ||| (isl e (nI 26))) ^^^ ((iusr e (nI 11)) ||| (isl e (nI 21)))) ^^^ ((iusr e (nI 25)) ||| (isl e (nI 7))))) + ((e &&& f0) ^^^ ((e ^^^ (-1)) &&& g))) + (J 92 t)) + (J w t))), (11, .int ((((iusr a (nI 2)) ||| (isl a (nI 30))) ^^^ ((iusr a (nI 13)) ||| (isl a (nI 19)))) ^^^ ((iusr a (nI 22)) ||| (isl a (nI 10))))), (10, .int ((((iusr e (nI 6)) ||| (isl e (nI 26))) ^^^ ((iusr e (nI 11)) ||| (isl e (nI 21)))) ^^^ ((iusr e (nI 25)) ||| (isl e (nI 7))))), (9, .int (nI t)), (7, .int g), (6, .int f0), (5, .int e), (4, .int d), (3, .int c), (2, .int b), (1, .int a), (0, .ref (A h))]) C dX5_addBlock_310 (Nat.lt_of_lt_of_eq (by decide) hN.symm) rfl ?_
              refine x_iload C dX5_addBlock_312 7 rfl ?_
              refine x_istore (lv' := [(7, .int f0), (8, .int g), (13, .int (((((iusr a (nI 2)) ||| (isl a (nI 30))) ^^^ ((iusr a (nI 13)) ||| (isl a (nI 19)))) ^^^ ((iusr a (nI 22)) ||| (isl a (nI 10)))) + (((a &&& b) ^^^ (a &&& c)) ^^^ (b &&& c)))), (12, .int ((((k + ((((iusr e (nI 6)) ||| (isl e (nI 26))) ^^^ ((iusr e (nI 11)) ||| (isl e (nI 21)))) ^^^ ((iusr e (nI 25)) ||| (isl e (nI 7))))) + ((e &&& f0) ^^^ ((e ^^^ (-1)) &&& g))) + (J 92 t)) + (J w t))), (11, .int ((((iusr a (nI 2)) ||| (isl a (nI 30))) ^^^ ((iusr a (nI 13)) ||| (isl a (nI 19)))) ^^^ ((iusr a (nI 22)) ||| (isl a (nI 10))))), (10, .int ((((iusr e (nI 6)) ||| (isl e (nI 26))) ^^^ ((iusr e (nI 11)) ||| (isl e (nI 21)))) ^^^ ((iusr e (nI 25)) ||| (isl e (nI 7))))), (9, .int (nI t)), (6, .int f0), (5, .int e), (4, .int d), (3, .int c), (2, .int b), (1, .int a), (0, .ref (A h))]) C dX5_addBlock_314 (Nat.lt_of_lt_of_eq (by decide) hN.symm) rfl ?_
              refine x_iload C dX5_addBlock_316 8 rfl ?_
              refine x_istore (lv' := [(6, .int e), (7, .int f0), (8, .int g), (13, .int (((((iusr a (nI 2)) ||| (isl a (nI 30))) ^^^ ((iusr a (nI 13)) ||| (isl a (nI 19)))) ^^^ ((iusr a (nI 22)) ||| (isl a (nI 10)))) + (((a &&& b) ^^^ (a &&& c)) ^^^ (b &&& c)))), (12, .int ((((k + ((((iusr e (nI 6)) ||| (isl e (nI 26))) ^^^ ((iusr e (nI 11)) ||| (isl e (nI 21)))) ^^^ ((iusr e (nI 25)) ||| (isl e (nI 7))))) + ((e &&& f0) ^^^ ((e ^^^ (-1)) &&& g))) + (J 92 t)) + (J w t))), (11, .int ((((iusr a (nI 2)) ||| (isl a (nI 30))) ^^^ ((iusr a (nI 13)) ||| (isl a (nI 19)))) ^^^ ((iusr a (nI 22)) ||| (isl a (nI 10))))), (10, .int ((((iusr e (nI 6)) ||| (isl e (nI 26))) ^^^ ((iusr e (nI 11)) ||| (isl e (nI 21)))) ^^^ ((iusr e (nI 25)) ||| (isl e (nI 7))))), (9, .int (nI t)), (5, .int e), (4, .int d), (3, .int c), (2, .int b), (1, .int a), (0, .ref (A h))]) C dX5_addBlock_318 (Nat.lt_of_lt_of_eq (by decide) hN.symm) rfl ?_
              refine x_iload C dX5_addBlock_320 9 rfl ?_
              refine x_iload C dX5_addBlock_322 4 rfl ?_
              refine x_iadd C dX5_addBlock_324 ?_
              refine x_istore (lv' := [(5, .int (d + ((((k + ((((iusr e (nI 6)) ||| (isl e (nI 26))) ^^^ ((iusr e (nI 11)) ||| (isl e (nI 21)))) ^^^ ((iusr e (nI 25)) ||| (isl e (nI 7))))) + ((e &&& f0) ^^^ ((e ^^^ (-1)) &&& g))) + (J 92 t)) + (J w t)))), (6, .int e), (7, .int f0), (8, .int g), (13, .int (((((iusr a (nI 2)) ||| (isl a (nI 30))) ^^^ ((iusr a (nI 13)) ||| (isl a (nI 19)))) ^^^ ((iusr a (nI 22)) ||| (isl a (nI 10)))) + (((a &&& b) ^^^ (a &&& c)) ^^^ (b &&& c)))), (12, .int ((((k + ((((iusr e (nI 6)) ||| (isl e (nI 26))) ^^^ ((iusr e (nI 11)) ||| (isl e (nI 21)))) ^^^ ((iusr e (nI 25)) ||| (isl e (nI 7))))) + ((e &&& f0) ^^^ ((e ^^^ (-1)) &&& g))) + (J 92 t)) + (J w t))), (11, .int ((((iusr a (nI 2)) ||| (isl a (nI 30))) ^^^ ((iusr a (nI 13)) ||| (isl a (nI 19)))) ^^^ ((iusr a (nI 22)) ||| (isl a (nI 10))))), (10, .int ((((iusr e (nI 6)) ||| (isl e (nI 26))) ^^^ ((iusr e (nI 11)) ||| (isl e (nI 21)))) ^^^ ((iusr e (nI 25)) ||| (isl e (nI 7))))), (9, .int (nI t)), (4, .int d), (3, .int c), (2, .int b), (1, .int a), (0, .ref (A h))]) C dX5_addBlock_325 (Nat.lt_of_lt_of_eq (by decide) hN.symm) rfl ?_
              refine x_iload_n C dX5_addBlock_327 10 rfl rfl ?_
              refine x_istore (lv' := [(4, .int c), (5, .int (d + ((((k + ((((iusr e (nI 6)) ||| (isl e (nI 26))) ^^^ ((iusr e (nI 11)) ||| (isl e (nI 21)))) ^^^ ((iusr e (nI 25)) ||| (isl e (nI 7))))) + ((e &&& f0) ^^^ ((e ^^^ (-1)) &&& g))) + (J 92 t)) + (J w t)))), (6, .int e), (7, .int f0), (8, .int g), (13, .int (((((iusr a (nI 2)) ||| (isl a (nI 30))) ^^^ ((iusr a (nI 13)) ||| (isl a (nI 19)))) ^^^ ((iusr a (nI 22)) ||| (isl a (nI 10)))) + (((a &&& b) ^^^ (a &&& c)) ^^^ (b &&& c)))), (12, .int ((((k + ((((iusr e (nI 6)) ||| (isl e (nI 26))) ^^^ ((iusr e (nI 11)) ||| (isl e (nI 21)))) ^^^ ((iusr e (nI 25)) ||| (isl e (nI 7))))) + ((e &&& f0) ^^^ ((e ^^^ (-1)) &&& g))) + (J 92 t)) + (J w t))), (11, .int ((((iusr a (nI 2)) ||| (isl a (nI 30))) ^^^ ((iusr a (nI 13)) ||| (isl a (nI 19)))) ^^^ ((iusr a (nI 22)) ||| (isl a (nI 10))))), (10, .int ((((iusr e (nI 6)) ||| (isl e (nI 26))) ^^^ ((iusr e (nI 11)) ||| (isl e (nI 21)))) ^^^ ((iusr e (nI 25)) ||| (isl e (nI 7))))), (9, .int (nI t)), (3, .int c), (2, .int b), (1, .int a), (0, .ref (A h))]) C dX5_addBlock_328 (Nat.lt_of_lt_of_eq (by decide) hN.symm) rfl ?_
              refine x_iload_n C dX5_addBlock_330 11 rfl rfl ?_
              refine x_istore_n (lv' := [(3, .int b), (4, .int c), (5, .int (d + ((((k + ((((iusr e (nI 6)) ||| (isl e (nI 26))) ^^^ ((iusr e (nI 11)) ||| (isl e (nI 21)))) ^^^ ((iusr e (nI 25)) ||| (isl e (nI 7))))) + ((e &&& f0) ^^^ ((e ^^^ (-1)) &&& g))) + (J 92 t)) + (J w t)))), (6, .int e), (7, .int f0), (8, .int g), (13, .int (((((iusr a (nI 2)) ||| (isl a (nI 30))) ^^^ ((iusr a (nI 13)) ||| (isl a (nI 19)))) ^^^ ((iusr a (nI 22)) ||| (isl a (nI 10)))) + (((a &&& b) ^^^ (a &&& c)) ^^^ (b &&& c)))), (12, .int ((((k + ((((iusr e (nI 6)) ||| (isl e (nI 26))) ^^^ ((iusr e (nI 11)) ||| (isl e (nI 21)))) ^^^ ((iusr e (nI 25)) ||| (isl e (nI 7))))) + ((e &&& f0) ^^^ ((e ^^^ (-1)) &&& g))) + (J 92 t)) + (J w t))), (11, .int ((((iusr a (nI 2)) ||| (isl a (nI 30))) ^^^ ((iusr a (nI 13)) ||| (isl a (nI 19)))) ^^^ ((iusr a (nI 22)) ||| (isl a (nI 10))))), (10, .int ((((iusr e (nI 6)) ||| (isl e (nI 26))) ^^^ ((iusr e (nI 11)) ||| (isl e (nI 21)))) ^^^ ((iusr e (nI 25)) ||| (isl e (nI 7))))), (9, .int (nI t)), (2, .int b), (1, .int a), (0, .ref (A h))]) C dX5_addBlock_331 rfl (Nat.lt_of_lt_of_eq (by decide) hN.symm) rfl ?_
              refine x_iload_n C dX5_addBlock_332 12 rfl rfl ?_
              refine x_istore_n (lv' := [(2, .int a), (3, .int b), (4, .int c), (5, .int (d + ((((k + ((((iusr e (nI 6)) ||| (isl e (nI 26))) ^^^ ((iusr e (nI 11)) ||| (isl e (nI 21)))) ^^^ ((iusr e (nI 25)) ||| (isl e (nI 7))))) + ((e &&& f0) ^^^ ((e ^^^ (-1)) &&& g))) + (J 92 t)) + (J w t)))), (6, .int e), (7, .int f0), (8, .int g), (13, .int (((((iusr a (nI 2)) ||| (isl a (nI 30))) ^^^ ((iusr a (nI 13)) ||| (isl a (nI 19)))) ^^^ ((iusr a (nI 22)) ||| (isl a (nI 10)))) + (((a &&& b) ^^^ (a &&& c)) ^^^ (b &&& c)))), (12, .int ((((k + ((((iusr e (nI 6)) ||| (isl e (nI 26))) ^^^ ((iusr e (nI 11)) ||| (isl e (nI 21)))) ^^^ ((iusr e (nI 25)) ||| (isl e (nI 7))))) + ((e &&& f0) ^^^ ((e ^^^ (-1)) &&& g))) + (J 92 t)) + (J w t))), (11, .int ((((iusr a (nI 2)) ||| (isl a (nI 30))) ^^^ ((iusr a (nI 13)) ||| (isl a (nI 19)))) ^^^ ((iusr a (nI 22)) ||| (isl a (nI 10))))), (10, .int ((((iusr e (nI 6)) ||| (isl e (nI 26))) ^^^ ((iusr e (nI 11)) ||| (isl e (nI 21)))) ^^^ ((iusr e (nI 25)) ||| (isl e (nI 7))))), (9, .int (nI t)), (1, .int a), (0, .ref (A h))]) C dX5_addBlock_333 rfl (Nat.lt_of_lt_of_eq (by decide) hN.symm) rfl ?_
              refine x_iload C dX5_addBlock_334 8 rfl ?_
              refine x_iload C dX5_addBlock_336 7 rfl ?_
              refine x_iadd C dX5_addBlock_338 ?_
              refine x_istore_n (lv' := [(1, .int (((((k + ((((iusr e (nI 6)) ||| (isl e (nI 26))) ^^^ ((iusr e (nI 11)) ||| (isl e (nI 21)))) ^^^ ((iusr e (nI 25)) ||| (isl e (nI 7))))) + ((e &&& f0) ^^^ ((e ^^^ (-1)) &&& g))) + (J 92 t)) + (J w t)) + (((((iusr a (nI 2)) ||| (isl a (nI 30))) ^^^ ((iusr a (nI 13)) ||| (isl a (nI 19)))) ^^^ ((iusr a (nI 22)) ||| (isl a (nI 10)))) + (((a &&& b) ^^^ (a &&& c)) ^^^ (b &&& c))))), (2, .int a), (3, .int b), (4, .int c), (5, .int (d + ((((k + ((((iusr e (nI 6)) ||| (isl e (nI 26))) ^^^ ((iusr e (nI 11)) ||| (isl e (nI 21)))) ^^^ ((iusr e (nI 25)) ||| (isl e (nI 7))))) + ((e &&& f0) ^^^ ((e ^^^ (-1)) &&& g))) + (J 92 t)) + (J w t)))), (6, .int e), (7, .int f0), (8, .int g), (13, .int (((((iusr a (nI 2)) ||| (isl a (nI 30))) ^^^ ((iusr a (nI 13)) ||| (isl a (nI 19)))) ^^^ ((iusr a (nI 22)) ||| (isl a (nI 10)))) + (((a &&& b) ^^^ (a &&& c)) ^^^ (b &&& c)))), (12, .int ((((k + ((((iusr e (nI 6)) ||| (isl e (nI 26))) ^^^ ((iusr e (nI 11)) ||| (isl e (nI 21)))) ^^^ ((iusr e (nI 25)) ||| (isl e (nI 7))))) + ((e &&& f0) ^^^ ((e ^^^ (-1)) &&& g))) + (J 92 t)) + (J w t))), (11, .int ((((iusr a (nI 2)) ||| (isl a (nI 30))) ^^^ ((iusr a (nI 13)) ||| (isl a (nI 19)))) ^^^ ((iusr a (nI 22)) ||| (isl a (nI 10))))), (10, .int ((((iusr e (nI 6)) ||| (isl e (nI 26))) ^^^ ((iusr e (nI 11)) ||| (isl e (nI 21)))) ^^^ ((iusr e (nI 25)) ||| (isl e (nI 7))))), (9, .int (nI t)), (0, .ref (A h))]) C dX5_addBlock_339 rfl (Nat.lt_of_lt_of_eq (by decide) hN.symm) rfl ?_
              refine x_iinc (v := nI (t + 1)) (lv' := [(9, .int (nI (t + 1))), (1, .int (((((k + ((((iusr e (nI 6)) ||| (isl e (nI 26))) ^^^ ((iusr e (nI 11)) ||| (isl e (nI 21)))) ^^^ ((iusr e (nI 25)) ||| (isl e (nI 7))))) + ((e &&& f0) ^^^ ((e ^^^ (-1)) &&& g))) + (J 92 t)) + (J w t)) + (((((iusr a (nI 2)) ||| (isl a (nI 30))) ^^^ ((iusr a (nI 13)) ||| (isl a (nI 19)))) ^^^ ((iusr a (nI 22)) ||| (isl a (nI 10)))) + (((a &&& b) ^^^ (a &&& c)) ^^^ (b &&& c))))), (2, .int a), (3, .int b), (4, .int c), (5, .int (d + ((((k + ((((iusr e (nI 6)) ||| (isl e (nI 26))) ^^^ ((iusr e (nI 11)) ||| (isl e (nI 21)))) ^^^ ((iusr e (nI 25)) ||| (isl e (nI 7))))) + ((e &&& f0) ^^^ ((e ^^^ (-1)) &&& g))) + (J 92 t)) + (J w t)))), (6, .int e), (7, .int f0), (8, .int g), (13, .int (((((iusr a (nI 2)) ||| (isl a (nI 30))) ^^^ ((iusr a (nI 13)) ||| (isl a (nI 19)))) ^^^ ((iusr a (nI 22)) ||| (isl a (nI 10)))) + (((a &&& b) ^^^ (a &&& c)) ^^^ (b &&& c)))), (12, .int ((((k + ((((iusr e (nI 6)) ||| (isl e (nI 26))) ^^^ ((iusr e (nI 11)) ||| (isl e (nI 21)))) ^^^ ((iusr e (nI 25)) ||| (isl e (nI 7))))) + ((e &&& f0) ^^^ ((e ^^^ (-1)) &&& g))) + (J 92 t)) + (J w t))), (11, .int ((((iusr a (nI 2)) ||| (isl a (nI 30))) ^^^ ((iusr a (nI 13)) ||| (isl a (nI 19)))) ^^^ ((iusr a (nI 22)) ||| (isl a (nI 10))))), (10, .int ((((iusr e (nI 6)) ||| (isl e (nI 26))) ^^^ ((iusr e (nI 11)) ||| (isl e (nI 21)))) ^^^ ((iusr e (nI 25)) ||| (isl e (nI 7))))), (0, .ref (A h))]) C dX5_addBlock_340 12 rfl (nI_inc 1) (Nat.lt_of_lt_of_eq (by decide) hN.symm) rfl ?_
              refine x_goto (tgt := 182) C dX5_addBlock_343 (by decide) ?_
              refine x_sub (lv' := _) [0, 8, 7, 6, 5, 4, 3, 2, 1, 13] rfl ?_
              exact ih182 (t + 1) (((((k + ((((iusr e (nI 6)) ||| (isl e (nI 26))) ^^^ ((iusr e (nI 11)) ||| (isl e (nI 21)))) ^^^ ((iusr e (nI 25)) ||| (isl e (nI 7))))) + ((e &&& f0) ^^^ ((e ^^^ (-1)) &&& g))) + (J 92 t)) + (J w t)) + (((((iusr a (nI 2)) ||| (isl a (nI 30))) ^^^ ((iusr a (nI 13)) ||| (isl a (nI 19)))) ^^^ ((iusr a (nI 22)) ||| (isl a (nI 10)))) + (((a &&& b) ^^^ (a &&& c)) ^^^ (b &&& c)))) a b c (d + ((((k + ((((iusr e (nI 6)) ||| (isl e (nI 26))) ^^^ ((iusr e (nI 11)) ||| (isl e (nI 21)))) ^^^ ((iusr e (nI 25)) ||| (isl e (nI 7))))) + ((e &&& f0) ^^^ ((e ^^^ (-1)) &&& g))) + (J 92 t)) + (J w t))) e f0 g (by omega) (by omega) (by rw [sR, hr, ← h92 t c186, show I 92 t = J 92 t by rw [hJ, up_ne _ _ n92.2.1]]; rfl)
        refine x_sub (lv' := _) [0, 1, 2, 3, 4, 5, 6, 7, 8, 9] rfl ?_
        exact L182 _ 0 (J s 0) (J s 1) (J s 2) (J s 3) (J s 4) (J s 5) (J s 6) (J s 7) (Nat.lt_succ_self _) (by omega) rfl
      · refine x_aload_n C dX5_addBlock_9 1 rfl rfl ?_
        refine x_getrN C fl_X5_15 hTh rfl hRw dX5_addBlock_10 ?_
        refine x_iload_n C dX5_addBlock_13 0 rfl rfl ?_
        refine x_bipush (v := nI 15) C dX5_addBlock_14 (by decide +kernel) ?_
        refine x_isubN C (by omega) dX5_addBlock_16 ?_
        refine x_ialdN C hTw (by omega) (by omega) dX5_addBlock_17 ?_
        refine x_istore_n (lv' := [(2, .int (J w (i - 15))), (1, .int (nI i)), (0, .ref (A h))]) C dX5_addBlock_18 rfl (Nat.lt_of_lt_of_eq (by decide) hN.symm) rfl ?_
        refine x_aload_n C dX5_addBlock_19 2 rfl rfl ?_
        refine x_getrN C fl_X5_15 hTh rfl hRw dX5_addBlock_20 ?_
        refine x_iload_n C dX5_addBlock_23 1 rfl rfl ?_
        refine x_iconst (v := nI 2) C dX5_addBlock_24 (by decide +kernel) ?_
        refine x_isubN C (by omega) dX5_addBlock_25 ?_
        refine x_ialdN C hTw (by omega) (by omega) dX5_addBlock_26 ?_
        refine x_istore_n (lv' := [(3, .int (J w (i - 2))), (2, .int (J w (i - 15))), (1, .int (nI i)), (0, .ref (A h))]) C dX5_addBlock_27 rfl (Nat.lt_of_lt_of_eq (by decide) hN.symm) rfl ?_
        refine x_iload_n C dX5_addBlock_28 1 rfl rfl ?_
        refine x_bipush (v := nI 7) C dX5_addBlock_29 (by decide +kernel) ?_
        refine x_iushr C dX5_addBlock_31 ?_
        refine x_iload_n C dX5_addBlock_32 1 rfl rfl ?_
        refine x_bipush (v := nI 25) C dX5_addBlock_33 (by decide +kernel) ?_
        refine x_ishl C dX5_addBlock_35 ?_
        refine x_ior C dX5_addBlock_36 ?_
        refine x_iload_n C dX5_addBlock_37 1 rfl rfl ?_
        refine x_bipush (v := nI 18) C dX5_addBlock_38 (by decide +kernel) ?_
        refine x_iushr C dX5_addBlock_40 ?_
        refine x_iload_n C dX5_addBlock_41 1 rfl rfl ?_
        refine x_bipush (v := nI 14) C dX5_addBlock_42 (by decide +kernel) ?_
        refine x_ishl C dX5_addBlock_44 ?_
        refine x_ior C dX5_addBlock_45 ?_
        refine x_ixor C dX5_addBlock_46 ?_
        refine x_iload_n C dX5_addBlock_47 1 rfl rfl ?_
        refine x_iconst (v := nI 3) C dX5_addBlock_48 (by decide +kernel) ?_
        refine x_iushr C dX5_addBlock_49 ?_
        refine x_ixor C dX5_addBlock_50 ?_
        refine x_istore (lv' := [(4, .int ((((iusr (J w (i - 15)) (nI 7)) ||| (isl (J w (i - 15)) (nI 25))) ^^^ ((iusr (J w (i - 15)) (nI 18)) ||| (isl (J w (i - 15)) (nI 14)))) ^^^ (iusr (J w (i - 15)) (nI 3)))), (3, .int (J w (i - 2))), (2, .int (J w (i - 15))), (1, .int (nI i)), (0, .ref (A h))]) C dX5_addBlock_51 (Nat.lt_of_lt_of_eq (by decide) hN.symm) rfl ?_
        refine x_iload_n C dX5_addBlock_53 1 rfl rfl ?_
        refine x_bipush (v := nI 17) C dX5_addBlock_54 (by decide +kernel) ?_
        refine x_iushr C dX5_addBlock_56 ?_
        refine x_iload_n C dX5_addBlock_57 1 rfl rfl ?_
        refine x_bipush (v := nI 15) C dX5_addBlock_58 (by decide +kernel) ?_
        refine x_ishl C dX5_addBlock_60 ?_
        refine x_ior C dX5_addBlock_61 ?_
        refine x_iload_n C dX5_addBlock_62 1 rfl rfl ?_
        refine x_bipush (v := nI 19) C dX5_addBlock_63 (by decide +kernel) ?_
        refine x_iushr C dX5_addBlock_65 ?_
        refine x_iload_n C dX5_addBlock_66 1 rfl rfl ?_
        refine x_bipush (v := nI 13) C dX5_addBlock_67 (by decide +kernel) ?_
        refine x_ishl C dX5_addBlock_69 ?_
        refine x_ior C dX5_addBlock_70 ?_
        refine x_ixor C dX5_addBlock_71 ?_
        refine x_iload_n C dX5_addBlock_72 1 rfl rfl ?_
        refine x_bipush (v := nI 10) C dX5_addBlock_73 (by decide +kernel) ?_
        refine x_iushr C dX5_addBlock_75 ?_
        refine x_ixor C dX5_addBlock_76 ?_
        refine x_istore (lv' := [(5, .int ((((iusr (J w (i - 2)) (nI 17)) ||| (isl (J w (i - 2)) (nI 15))) ^^^ ((iusr (J w (i - 2)) (nI 19)) ||| (isl (J w (i - 2)) (nI 13)))) ^^^ (iusr (J w (i - 2)) (nI 10)))), (4, .int ((((iusr (J w (i - 15)) (nI 7)) ||| (isl (J w (i - 15)) (nI 25))) ^^^ ((iusr (J w (i - 15)) (nI 18)) ||| (isl (J w (i - 15)) (nI 14)))) ^^^ (iusr (J w (i - 15)) (nI 3)))), (3, .int (J w (i - 2))), (2, .int (J w (i - 15))), (1, .int (nI i)), (0, .ref (A h))]) C dX5_addBlock_77 (Nat.lt_of_lt_of_eq (by decide) hN.symm) rfl ?_
        refine x_aload_n C dX5_addBlock_79 5 rfl rfl ?_
        refine x_getrN C fl_X5_15 hTh rfl hRw dX5_addBlock_80 ?_
        refine x_iload_n C dX5_addBlock_83 4 rfl rfl ?_
        refine x_aload_n C dX5_addBlock_84 5 rfl rfl ?_
        refine x_getrN C fl_X5_15 hTh rfl hRw dX5_addBlock_85 ?_
        refine x_iload_n C dX5_addBlock_88 4 rfl rfl ?_
        refine x_bipush (v := nI 16) C dX5_addBlock_89 (by decide +kernel) ?_
        refine x_isubN C (by omega) dX5_addBlock_91 ?_
        refine x_ialdN C hTw (by omega) (by omega) dX5_addBlock_92 ?_
        refine x_iload C dX5_addBlock_93 1 rfl ?_
        refine x_iadd C dX5_addBlock_95 ?_
        refine x_aload_n C dX5_addBlock_96 5 rfl rfl ?_
        refine x_getrN C fl_X5_15 hTh rfl hRw dX5_addBlock_97 ?_
        refine x_iload_n C dX5_addBlock_100 4 rfl rfl ?_
        refine x_bipush (v := nI 7) C dX5_addBlock_101 (by decide +kernel) ?_
        refine x_isubN C (by omega) dX5_addBlock_103 ?_
        refine x_ialdN C hTw (by omega) (by omega) dX5_addBlock_104 ?_
        refine x_iadd C dX5_addBlock_105 ?_
        refine x_iload C dX5_addBlock_106 0 rfl ?_
        refine x_iadd C dX5_addBlock_108 ?_
        refine x_iastN C hTw hw0 (by omega) (by omega) dX5_addBlock_109 (fun I9 eI9 => ?_)
        refine x_iinc (v := nI (i + 1)) (lv' := [(1, .int (nI (i + 1))), (5, .int ((((iusr (J w (i - 2)) (nI 17)) ||| (isl (J w (i - 2)) (nI 15))) ^^^ ((iusr (J w (i - 2)) (nI 19)) ||| (isl (J w (i - 2)) (nI 13)))) ^^^ (iusr (J w (i - 2)) (nI 10)))), (4, .int ((((iusr (J w (i - 15)) (nI 7)) ||| (isl (J w (i - 15)) (nI 25))) ^^^ ((iusr (J w (i - 15)) (nI 18)) ||| (isl (J w (i - 15)) (nI 14)))) ^^^ (iusr (J w (i - 15)) (nI 3)))), (3, .int (J w (i - 2))), (2, .int (J w (i - 15))), (0, .ref (A h))]) C dX5_addBlock_110 4 rfl (nI_inc 1) (Nat.lt_of_lt_of_eq (by decide) hN.symm) rfl ?_
        refine x_goto (tgt := 3) C dX5_addBlock_113 (by decide) ?_
        refine x_sub (lv' := _) [0, 5] rfl ?_
        exact ih3 (i + 1) I9 (by omega) (by omega) (by omega) (by rw [eI9, hJ]; simp only [up_eq, up_up]; exact congrArg (va_up I w) (sW_s (I w) hi))
  refine x_sub (lv' := _) [0, 1] rfl ?_
  exact L3 _ 16 I (Nat.lt_succ_self _) (by omega) (by omega) (up_self _ _).symm

