theorem prep_m {G0 F key : Nat → Int32} {c n : Int32} (h : F = upd (upd (upd (upd (fun x => if 4 ≤ x ∧ x < 4 + 8 then cW key (x - 4) else upd (upd (upd (upd G0 0 (nI 1634760805)) 1 (nI 857760878)) 2 (nI 2036477234)) 3 (nI 1797285236) x) 12 c) 13 (nI 0)) 14 n) 15 (nI 0)) : ∀ i, i < 16 → F i = cSt key c n i := by
  intro i hi
  rw [h]
  rcases (show i = 0 ∨ i = 1 ∨ i = 2 ∨ i = 3 ∨ (4 ≤ i ∧ i < 12) ∨ i = 12 ∨ i = 13 ∨ i = 14 ∨ i = 15 by omega) with rfl | rfl | rfl | rfl | h4 | rfl | rfl | rfl | rfl
  · simp [upd, cSt]
  · simp [upd, cSt]
  · simp [upd, cSt]
  · simp [upd, cSt]
  · simp [upd, cSt, h4, show i ≠ 12 by omega, show i ≠ 13 by omega, show i ≠ 14 by omega, show i ≠ 15 by omega, show i ≠ 0 by omega, show i ≠ 1 by omega, show i ≠ 2 by omega, show i ≠ 3 by omega]
  · simp [upd, cSt]
  · simp [upd, cSt]
  · simp [upd, cSt]
  · simp [upd, cSt]
set_option maxHeartbeats 4000000 in
set_option maxRecDepth 100000 in
theorem ok_X11_streams {l : Launch} {a0 : Nat} {D : va_G} {sa : Nat → Nat} {T : Nat → Option hKd} {I : Nat → Nat → Int32} {L : Nat → Nat → Int64} {R : Nat → Nat → Option Nat} {A : Nat → Nat} (mO : isM T R A a0) (kq nk p : Nat) (c n : Int32) (hTk : T kq = some (.inl (.int, nk))) (hnk : nk < 2 ^ 31) (hp : p + 32 ≤ nk) (hk : kq ≠ 14 ∧ kq ≠ 15 ∧ kq ≠ 16) : hM l a0 D sa yX11_streams cX11_streams 7 none { frames := 2, cells := 0, slots := 0, locals := 45 } [.ref (A 63), .ref (A kq), .int (nI p), .int c, .int n] (T, I, L, R, A) (fun r G' => r = none ∧ ∃ I', G' = (T, I', L, R, A) ∧ (∀ k, k < 64 → I' 16 k = cStr (fun i => I kq (p + i)) c n k) ∧ fx [14, 15, 16] I I') := by
  refine hM.of (by decide +kernel) (Nat.le_of_ble_eq_true rfl) ?_
  intro z hl h0 hD hS hN C E
  subst hl; subst h0; subst hD; subst hS
  have C : hC z RX11 cX11_streams := C
  have hZ := E.2.2.2.1
  show hX z 0 0 (T, I, L, R, A) [(0, .ref (A 63)), (1, .ref (A kq)), (2, .int (nI p)), (3, .int c), (4, .int n)] 0 []
  refine x_aload_n C dX11_streams_0 0 rfl rfl ?_
  refine x_getrN C fl_X11_122 mO.1 rfl (mO.2.2 14 _ rfl).1 dX11_streams_1 ?_
  refine x_iconst (v := nI 0) C dX11_streams_4 (by decide +kernel) ?_
  refine x_ldcw C dX11_streams_5 kc_X11_339 ?_
  refine x_iastN C (mO.2.2 14 _ rfl).2.1 (mO.2.2 14 _ rfl).2.2 (by omega) (by omega) dX11_streams_8 (fun I1 eI1 => ?_)
  refine x_aload_n C dX11_streams_9 0 rfl rfl ?_
  refine x_getrN C fl_X11_122 mO.1 rfl (mO.2.2 14 _ rfl).1 dX11_streams_10 ?_
  refine x_iconst (v := nI 1) C dX11_streams_13 (by decide +kernel) ?_
  refine x_ldcw C dX11_streams_14 kc_X11_340 ?_
  refine x_iastN C (mO.2.2 14 _ rfl).2.1 (mO.2.2 14 _ rfl).2.2 (by omega) (by omega) dX11_streams_17 (fun I2 eI2 => ?_)
  refine x_aload_n C dX11_streams_18 0 rfl rfl ?_
  refine x_getrN C fl_X11_122 mO.1 rfl (mO.2.2 14 _ rfl).1 dX11_streams_19 ?_
  refine x_iconst (v := nI 2) C dX11_streams_22 (by decide +kernel) ?_
  refine x_ldcw C dX11_streams_23 kc_X11_341 ?_
  refine x_iastN C (mO.2.2 14 _ rfl).2.1 (mO.2.2 14 _ rfl).2.2 (by omega) (by omega) dX11_streams_26 (fun I3 eI3 => ?_)
  refine x_aload_n C dX11_streams_27 0 rfl rfl ?_
  refine x_getrN C fl_X11_122 mO.1 rfl (mO.2.2 14 _ rfl).1 dX11_streams_28 ?_
  refine x_iconst (v := nI 3) C dX11_streams_31 (by decide +kernel) ?_
  refine x_ldcw C dX11_streams_32 kc_X11_342 ?_
  refine x_iastN C (mO.2.2 14 _ rfl).2.1 (mO.2.2 14 _ rfl).2.2 (by omega) (by omega) dX11_streams_35 (fun I4 eI4 => ?_)
  refine x_iconst (v := nI 0) C dX11_streams_36 (by decide +kernel) ?_
  refine x_istore (lv' := [(5, .int (nI 0)), (0, .ref (A 63)), (1, .ref (A kq)), (2, .int (nI p)), (3, .int c), (4, .int n)]) C dX11_streams_37 (Nat.lt_of_lt_of_eq (by decide) hN.symm) rfl ?_
  have L39 : ∀ (fuel_ : Nat) (k : Nat) (J : Nat → Nat → Int32), 8 - k < fuel_ → (k ≤ 8) → (J = va_up I4 14 (fun x => if 4 ≤ x ∧ x < 4 + k then cW (fun i => I kq (p + i)) (x - 4) else I4 14 x)) → hX z 0 0 (T, J, L, R, A) [(5, .int (nI k)), (0, .ref (A 63)), (1, .ref (A kq)), (2, .int (nI p)), (3, .int c), (4, .int n)] 39 [] := by
    intro fuel_
    induction fuel_ with
    | zero => intro k J hmz; exact absurd hmz (Nat.not_lt_zero _)
    | succ fuel_ ih39 =>
      intro k J hmz hk8 hJ
      refine x_iload C dX11_streams_39 0 rfl ?_
      refine x_bipush (v := nI 8) C dX11_streams_41 (by decide +kernel) ?_
      refine x_icmp_geN (tgt := 103) C (by omega) (by omega) dX11_streams_43 (by decide) (fun c43 => ?_) (fun c43 => ?_)
      · refine x_aload_n C dX11_streams_103 1 rfl rfl ?_
        refine x_getrN C fl_X11_122 mO.1 rfl (mO.2.2 14 _ rfl).1 dX11_streams_104 ?_
        refine x_bipush (v := nI 12) C dX11_streams_107 (by decide +kernel) ?_
        refine x_iload_n C dX11_streams_109 4 rfl rfl ?_
        refine x_iastN C (mO.2.2 14 _ rfl).2.1 (mO.2.2 14 _ rfl).2.2 (by omega) (by omega) dX11_streams_110 (fun I5 eI5 => ?_)
        refine x_aload_n C dX11_streams_111 1 rfl rfl ?_
        refine x_getrN C fl_X11_122 mO.1 rfl (mO.2.2 14 _ rfl).1 dX11_streams_112 ?_
        refine x_bipush (v := nI 13) C dX11_streams_115 (by decide +kernel) ?_
        refine x_iconst (v := nI 0) C dX11_streams_117 (by decide +kernel) ?_
        refine x_iastN C (mO.2.2 14 _ rfl).2.1 (mO.2.2 14 _ rfl).2.2 (by omega) (by omega) dX11_streams_118 (fun I6 eI6 => ?_)
        refine x_aload_n C dX11_streams_119 1 rfl rfl ?_
        refine x_getrN C fl_X11_122 mO.1 rfl (mO.2.2 14 _ rfl).1 dX11_streams_120 ?_
        refine x_bipush (v := nI 14) C dX11_streams_123 (by decide +kernel) ?_
        refine x_iload C dX11_streams_125 5 rfl ?_
        refine x_iastN C (mO.2.2 14 _ rfl).2.1 (mO.2.2 14 _ rfl).2.2 (by omega) (by omega) dX11_streams_127 (fun I7 eI7 => ?_)
        refine x_aload_n C dX11_streams_128 1 rfl rfl ?_
        refine x_getrN C fl_X11_122 mO.1 rfl (mO.2.2 14 _ rfl).1 dX11_streams_129 ?_
        refine x_bipush (v := nI 15) C dX11_streams_132 (by decide +kernel) ?_
        refine x_iconst (v := nI 0) C dX11_streams_134 (by decide +kernel) ?_
        refine x_iastN C (mO.2.2 14 _ rfl).2.1 (mO.2.2 14 _ rfl).2.2 (by omega) (by omega) dX11_streams_135 (fun I8 eI8 => ?_)
        refine x_aload_n C dX11_streams_136 1 rfl rfl ?_
        refine x_getrN C fl_X11_122 mO.1 rfl (mO.2.2 14 _ rfl).1 dX11_streams_137 ?_
        refine x_iconst (v := nI 0) C dX11_streams_140 (by decide +kernel) ?_
        refine x_aload_n C dX11_streams_141 1 rfl rfl ?_
        refine x_getrN C fl_X11_125 mO.1 rfl (mO.2.2 15 _ rfl).1 dX11_streams_142 ?_
        refine x_iconst (v := nI 0) C dX11_streams_145 (by decide +kernel) ?_
        refine x_bipush (v := nI 16) C dX11_streams_146 (by decide +kernel) ?_
        refine x_callS C (ok_X11_copy 14 15 0 0 16 16 16 (mO.2.2 14 _ rfl).2.1 (mO.2.2 15 _ rfl).2.1 (mO.2.2 15 _ rfl).2.2 (by decide) (by decide) (by decide) (by decide) (by decide)) ms_X11_copy ml_X11_270 rfl rfl (Nat.le_of_ble_eq_true rfl) (hrm (rm := { frames := 0, cells := 0, slots := 0, locals := 0 }) hZ ⟨Nat.le_of_ble_eq_true rfl, Nat.le_of_ble_eq_true rfl⟩) (hcs hZ ⟨Nat.le_of_ble_eq_true rfl, Nat.le_of_ble_eq_true rfl⟩) dX11_streams_148 (fun v G' hp => ?_)
        obtain ⟨rfl, rfl⟩ := hp
        generalize hK0 : va_up I8 15 _ = K0
        have s14 : ∀ i, i < 16 → K0 14 i = cSt (fun i => I kq (p + i)) c n i := by rw [← hK0, up_ne _ _ (by decide)]; exact prep_m (G0 := I 14) (by rw [eI8, eI7, eI6, eI5, hJ, show k = 8 by omega, eI4, eI3, eI2, eI1]; simp only [up_eq])
        have s15 : ∀ i, i < 16 → K0 15 i = K0 14 i := fun i hi => by rw [← hK0, up_eq, up_ne _ _ (by decide), if_pos (by omega), Nat.zero_add, Nat.sub_zero]
        have f0 : fx [14, 15, 16] I K0 := by rw [← hK0, eI8, eI7, eI6, eI5, hJ, eI4, eI3, eI2, eI1]; exact (((((((((fx.rf.up (by simp)).up (by simp)).up (by simp)).up (by simp)).up (by simp)).up (by simp)).up (by simp)).up (by simp)).up (by simp)).up (by simp)
        show hX z 0 0 (T, K0, L, R, A) [(5, .int (nI k)), (0, .ref (A 63)), (1, .ref (A kq)), (2, .int (nI p)), (3, .int c), (4, .int n)] 151 []
        refine x_iconst (v := nI 0) C dX11_streams_151 (by decide +kernel) ?_
        refine x_istore (lv' := [(5, .int (nI 0)), (0, .ref (A 63)), (1, .ref (A kq)), (2, .int (nI p)), (3, .int c), (4, .int n)]) C dX11_streams_152 (Nat.lt_of_lt_of_eq (by decide) hN.symm) rfl ?_
        have L154 : ∀ (fuel_ : Nat) (i : Nat) (K : Nat → Nat → Int32), 10 - i < fuel_ → (i ≤ 10) → (K = va_up K0 15 (cRs (K0 15) i)) → hX z 0 0 (T, K, L, R, A) [(5, .int (nI i)), (0, .ref (A 63)), (1, .ref (A kq)), (2, .int (nI p)), (3, .int c), (4, .int n)] 154 [] := by
          intro fuel_
          induction fuel_ with
          | zero => intro i K hmz; exact absurd hmz (Nat.not_lt_zero _)
          | succ fuel_ ih154 =>
            intro i K hmz hi hK
            refine x_iload C dX11_streams_154 0 rfl ?_
            refine x_bipush (v := nI 10) C dX11_streams_156 (by decide +kernel) ?_
            refine x_icmp_geN (tgt := 251) C (by omega) (by omega) dX11_streams_158 (by decide) (fun c158 => ?_) (fun c158 => ?_)
            · have hB : ∀ s, s < 16 → K 15 s + K 14 s = cBlk (cSt (fun i => I kq (p + i)) c n) s := fun s hs => by rw [hK, up_eq, up_ne _ _ (by decide), show i = 10 by omega]; unfold cBlk; rw [cRs_congr (fun t ht => (s15 t ht).trans (s14 t ht)) 10 s hs, s14 s hs]
              refine x_iconst (v := nI 0) C dX11_streams_251 (by decide +kernel) ?_
              refine x_istore (lv' := [(5, .int (nI 0)), (0, .ref (A 63)), (1, .ref (A kq)), (2, .int (nI p)), (3, .int c), (4, .int n)]) C dX11_streams_252 (Nat.lt_of_lt_of_eq (by decide) hN.symm) rfl ?_
              have L254 : ∀ (fuel_ : Nat) (j : Nat) (M : Nat → Nat → Int32), 64 - j < fuel_ → (j ≤ 64) → (M = va_up K 16 (fun x => if x < j then cStr (fun i => I kq (p + i)) c n x else K 16 x)) → hX z 0 0 (T, M, L, R, A) [(5, .int (nI j)), (0, .ref (A 63)), (1, .ref (A kq)), (2, .int (nI p)), (3, .int c), (4, .int n)] 254 [] := by
                intro fuel_
                induction fuel_ with
                | zero => intro j M hmz; exact absurd hmz (Nat.not_lt_zero _)
                | succ fuel_ ih254 =>
                  intro j M hmz hj hM2
                  refine x_iload C dX11_streams_254 0 rfl ?_
                  refine x_bipush (v := nI 64) C dX11_streams_256 (by decide +kernel) ?_
                  refine x_icmp_geN (tgt := 305) C (by omega) (by omega) dX11_streams_258 (by decide) (fun c258 => ?_) (fun c258 => ?_)
                  · exact x_vret C E (Nat.le_of_ble_eq_true rfl) (Nat.le_of_ble_eq_true rfl) dX11_streams_305 (⟨rfl, M, rfl, fun t ht => by rw [hM2, up_eq, if_pos (by omega)], by rw [hM2, hK]; exact (f0.up (by simp)).up (by simp)⟩)
                  · refine x_aload_n C dX11_streams_261 1 rfl rfl ?_
                    refine x_getrN C fl_X11_128 mO.1 rfl (mO.2.2 16 _ rfl).1 dX11_streams_262 ?_
                    refine x_iload C dX11_streams_265 0 rfl ?_
                    refine x_aload_n C dX11_streams_267 1 rfl rfl ?_
                    refine x_getrN C fl_X11_125 mO.1 rfl (mO.2.2 15 _ rfl).1 dX11_streams_268 ?_
                    refine x_iload C dX11_streams_271 0 rfl ?_
                    refine x_iconst (v := nI 4) C dX11_streams_273 (by decide +kernel) ?_
                    refine x_idivN C (by omega) (by omega) (by omega) dX11_streams_274 ?_
                    refine x_ialdN C (mO.2.2 15 _ rfl).2.1 (by omega) (by omega) dX11_streams_275 ?_
                    refine x_aload_n C dX11_streams_276 1 rfl rfl ?_
                    refine x_getrN C fl_X11_122 mO.1 rfl (mO.2.2 14 _ rfl).1 dX11_streams_277 ?_
                    refine x_iload C dX11_streams_280 0 rfl ?_
                    refine x_iconst (v := nI 4) C dX11_streams_282 (by decide +kernel) ?_
                    refine x_idivN C (by omega) (by omega) (by omega) dX11_streams_283 ?_
                    refine x_ialdN C (mO.2.2 14 _ rfl).2.1 (by omega) (by omega) dX11_streams_284 ?_
                    refine x_iadd C dX11_streams_285 ?_
                    refine x_bipush (v := nI 8) C dX11_streams_286 (by decide +kernel) ?_
                    refine x_iload C dX11_streams_288 0 rfl ?_
                    refine x_iconst (v := nI 4) C dX11_streams_290 (by decide +kernel) ?_
                    refine x_iremN C (by omega) (by omega) (by omega) dX11_streams_291 ?_
                    refine x_imulN C dX11_streams_292 ?_
                    refine x_iushr C dX11_streams_293 ?_
                    refine x_sipush (v := nI 255) C dX11_streams_294 (by decide +kernel) ?_
                    refine x_iand C dX11_streams_297 ?_
                    refine x_iastN C (mO.2.2 16 _ rfl).2.1 (mO.2.2 16 _ rfl).2.2 (by omega) (by omega) dX11_streams_298 (fun I9 eI9 => ?_)
                    refine x_iinc (v := nI (j + 1)) (lv' := [(5, .int (nI (j + 1))), (0, .ref (A 63)), (1, .ref (A kq)), (2, .int (nI p)), (3, .int c), (4, .int n)]) C dX11_streams_299 0 rfl (nI_inc 1) (Nat.lt_of_lt_of_eq (by decide) hN.symm) rfl ?_
                    refine x_goto (tgt := 254) C dX11_streams_302 (by decide) ?_
                    refine x_sub (lv' := _) [0, 1, 2, 3, 4, 5] rfl ?_
                    exact ih254 (j + 1) I9 (by omega) (by omega) (by rw [eI9, hM2]; simp only [up_eq, up_up, up_ne _ _ (show (15 : Nat) ≠ 16 by decide), up_ne _ _ (show (14 : Nat) ≠ 16 by decide)]; exact congrArg (va_up K 16) (by rw [upd_up]; exact fill_s (cStr (fun i => I kq (p + i)) c n) _ (by rw [hB _ (by omega)]; rfl)))
              refine x_sub (lv' := _) [0, 1, 2, 3, 4, 5] rfl ?_
              exact L254 _ 0 K (Nat.lt_succ_self _) (by omega) (fill_0 K 16 _)
            · refine x_aload_n C dX11_streams_161 1 rfl rfl ?_
              refine x_iconst (v := nI 0) C dX11_streams_162 (by decide +kernel) ?_
              refine x_iconst (v := nI 4) C dX11_streams_163 (by decide +kernel) ?_
              refine x_bipush (v := nI 8) C dX11_streams_164 (by decide +kernel) ?_
              refine x_bipush (v := nI 12) C dX11_streams_166 (by decide +kernel) ?_
              refine x_callV C (ok_X11_quarter (I := K) mO 0 4 8 12 (by decide) (by decide) (by decide) (by decide)) mv_X11_quarter ml_X11_343 mO.1 rfl rfl rfl (Nat.le_of_ble_eq_true rfl) (hrm (rm := { frames := 0, cells := 0, slots := 0, locals := 0 }) hZ ⟨Nat.le_of_ble_eq_true rfl, Nat.le_of_ble_eq_true rfl⟩) (hcs hZ ⟨Nat.le_of_ble_eq_true rfl, Nat.le_of_ble_eq_true rfl⟩) dX11_streams_168 (fun v G' hp => ?_)
              obtain ⟨rfl, rfl⟩ := hp
              show hX z 0 0 (T, (va_up K 15 (cQ (K 15) 0 4 8 12)), L, R, A) [(5, .int (nI i)), (0, .ref (A 63)), (1, .ref (A kq)), (2, .int (nI p)), (3, .int c), (4, .int n)] 171 []
              refine x_aload_n C dX11_streams_171 1 rfl rfl ?_
              refine x_iconst (v := nI 1) C dX11_streams_172 (by decide +kernel) ?_
              refine x_iconst (v := nI 5) C dX11_streams_173 (by decide +kernel) ?_
              refine x_bipush (v := nI 9) C dX11_streams_174 (by decide +kernel) ?_
              refine x_bipush (v := nI 13) C dX11_streams_176 (by decide +kernel) ?_
              refine x_callV C (ok_X11_quarter (I := (va_up K 15 (cQ (K 15) 0 4 8 12))) mO 1 5 9 13 (by decide) (by decide) (by decide) (by decide)) mv_X11_quarter ml_X11_343 mO.1 rfl rfl rfl (Nat.le_of_ble_eq_true rfl) (hrm (rm := { frames := 0, cells := 0, slots := 0, locals := 0 }) hZ ⟨Nat.le_of_ble_eq_true rfl, Nat.le_of_ble_eq_true rfl⟩) (hcs hZ ⟨Nat.le_of_ble_eq_true rfl, Nat.le_of_ble_eq_true rfl⟩) dX11_streams_178 (fun v G' hp => ?_)
              obtain ⟨rfl, rfl⟩ := hp
              rw [up_eq, up_up]
              show hX z 0 0 (T, (va_up K 15 (cQ (cQ (K 15) 0 4 8 12) 1 5 9 13)), L, R, A) [(5, .int (nI i)), (0, .ref (A 63)), (1, .ref (A kq)), (2, .int (nI p)), (3, .int c), (4, .int n)] 181 []
              refine x_aload_n C dX11_streams_181 1 rfl rfl ?_
              refine x_iconst (v := nI 2) C dX11_streams_182 (by decide +kernel) ?_
              refine x_bipush (v := nI 6) C dX11_streams_183 (by decide +kernel) ?_
              refine x_bipush (v := nI 10) C dX11_streams_185 (by decide +kernel) ?_
              refine x_bipush (v := nI 14) C dX11_streams_187 (by decide +kernel) ?_
              refine x_callV C (ok_X11_quarter (I := (va_up K 15 (cQ (cQ (K 15) 0 4 8 12) 1 5 9 13))) mO 2 6 10 14 (by decide) (by decide) (by decide) (by decide)) mv_X11_quarter ml_X11_343 mO.1 rfl rfl rfl (Nat.le_of_ble_eq_true rfl) (hrm (rm := { frames := 0, cells := 0, slots := 0, locals := 0 }) hZ ⟨Nat.le_of_ble_eq_true rfl, Nat.le_of_ble_eq_true rfl⟩) (hcs hZ ⟨Nat.le_of_ble_eq_true rfl, Nat.le_of_ble_eq_true rfl⟩) dX11_streams_189 (fun v G' hp => ?_)
              obtain ⟨rfl, rfl⟩ := hp
              rw [up_eq, up_up]
              show hX z 0 0 (T, (va_up K 15 (cQ (cQ (cQ (K 15) 0 4 8 12) 1 5 9 13) 2 6 10 14)), L, R, A) [(5, .int (nI i)), (0, .ref (A 63)), (1, .ref (A kq)), (2, .int (nI p)), (3, .int c), (4, .int n)] 192 []
              refine x_aload_n C dX11_streams_192 1 rfl rfl ?_
              refine x_iconst (v := nI 3) C dX11_streams_193 (by decide +kernel) ?_
              refine x_bipush (v := nI 7) C dX11_streams_194 (by decide +kernel) ?_
              refine x_bipush (v := nI 11) C dX11_streams_196 (by decide +kernel) ?_
              refine x_bipush (v := nI 15) C dX11_streams_198 (by decide +kernel) ?_
              refine x_callV C (ok_X11_quarter (I := (va_up K 15 (cQ (cQ (cQ (K 15) 0 4 8 12) 1 5 9 13) 2 6 10 14))) mO 3 7 11 15 (by decide) (by decide) (by decide) (by decide)) mv_X11_quarter ml_X11_343 mO.1 rfl rfl rfl (Nat.le_of_ble_eq_true rfl) (hrm (rm := { frames := 0, cells := 0, slots := 0, locals := 0 }) hZ ⟨Nat.le_of_ble_eq_true rfl, Nat.le_of_ble_eq_true rfl⟩) (hcs hZ ⟨Nat.le_of_ble_eq_true rfl, Nat.le_of_ble_eq_true rfl⟩) dX11_streams_200 (fun v G' hp => ?_)
              obtain ⟨rfl, rfl⟩ := hp
              rw [up_eq, up_up]
              show hX z 0 0 (T, (va_up K 15 (cQ (cQ (cQ (cQ (K 15) 0 4 8 12) 1 5 9 13) 2 6 10 14) 3 7 11 15)), L, R, A) [(5, .int (nI i)), (0, .ref (A 63)), (1, .ref (A kq)), (2, .int (nI p)), (3, .int c), (4, .int n)] 203 []
              refine x_aload_n C dX11_streams_203 1 rfl rfl ?_
              refine x_iconst (v := nI 0) C dX11_streams_204 (by decide +kernel) ?_
              refine x_iconst (v := nI 5) C dX11_streams_205 (by decide +kernel) ?_
              refine x_bipush (v := nI 10) C dX11_streams_206 (by decide +kernel) ?_
              refine x_bipush (v := nI 15) C dX11_streams_208 (by decide +kernel) ?_
              refine x_callV C (ok_X11_quarter (I := (va_up K 15 (cQ (cQ (cQ (cQ (K 15) 0 4 8 12) 1 5 9 13) 2 6 10 14) 3 7 11 15))) mO 0 5 10 15 (by decide) (by decide) (by decide) (by decide)) mv_X11_quarter ml_X11_343 mO.1 rfl rfl rfl (Nat.le_of_ble_eq_true rfl) (hrm (rm := { frames := 0, cells := 0, slots := 0, locals := 0 }) hZ ⟨Nat.le_of_ble_eq_true rfl, Nat.le_of_ble_eq_true rfl⟩) (hcs hZ ⟨Nat.le_of_ble_eq_true rfl, Nat.le_of_ble_eq_true rfl⟩) dX11_streams_210 (fun v G' hp => ?_)
              obtain ⟨rfl, rfl⟩ := hp
              rw [up_eq, up_up]
              show hX z 0 0 (T, (va_up K 15 (cQ (cQ (cQ (cQ (cQ (K 15) 0 4 8 12) 1 5 9 13) 2 6 10 14) 3 7 11 15) 0 5 10 15)), L, R, A) [(5, .int (nI i)), (0, .ref (A 63)), (1, .ref (A kq)), (2, .int (nI p)), (3, .int c), (4, .int n)] 213 []
              refine x_aload_n C dX11_streams_213 1 rfl rfl ?_
              refine x_iconst (v := nI 1) C dX11_streams_214 (by decide +kernel) ?_
              refine x_bipush (v := nI 6) C dX11_streams_215 (by decide +kernel) ?_
              refine x_bipush (v := nI 11) C dX11_streams_217 (by decide +kernel) ?_
              refine x_bipush (v := nI 12) C dX11_streams_219 (by decide +kernel) ?_
              refine x_callV C (ok_X11_quarter (I := (va_up K 15 (cQ (cQ (cQ (cQ (cQ (K 15) 0 4 8 12) 1 5 9 13) 2 6 10 14) 3 7 11 15) 0 5 10 15))) mO 1 6 11 12 (by decide) (by decide) (by decide) (by decide)) mv_X11_quarter ml_X11_343 mO.1 rfl rfl rfl (Nat.le_of_ble_eq_true rfl) (hrm (rm := { frames := 0, cells := 0, slots := 0, locals := 0 }) hZ ⟨Nat.le_of_ble_eq_true rfl, Nat.le_of_ble_eq_true rfl⟩) (hcs hZ ⟨Nat.le_of_ble_eq_true rfl, Nat.le_of_ble_eq_true rfl⟩) dX11_streams_221 (fun v G' hp => ?_)
              obtain ⟨rfl, rfl⟩ := hp
              rw [up_eq, up_up]
              show hX z 0 0 (T, (va_up K 15 (cQ (cQ (cQ (cQ (cQ (cQ (K 15) 0 4 8 12) 1 5 9 13) 2 6 10 14) 3 7 11 15) 0 5 10 15) 1 6 11 12)), L, R, A) [(5, .int (nI i)), (0, .ref (A 63)), (1, .ref (A kq)), (2, .int (nI p)), (3, .int c), (4, .int n)] 224 []
              refine x_aload_n C dX11_streams_224 1 rfl rfl ?_
              refine x_iconst (v := nI 2) C dX11_streams_225 (by decide +kernel) ?_
              refine x_bipush (v := nI 7) C dX11_streams_226 (by decide +kernel) ?_
              refine x_bipush (v := nI 8) C dX11_streams_228 (by decide +kernel) ?_
              refine x_bipush (v := nI 13) C dX11_streams_230 (by decide +kernel) ?_
              refine x_callV C (ok_X11_quarter (I := (va_up K 15 (cQ (cQ (cQ (cQ (cQ (cQ (K 15) 0 4 8 12) 1 5 9 13) 2 6 10 14) 3 7 11 15) 0 5 10 15) 1 6 11 12))) mO 2 7 8 13 (by decide) (by decide) (by decide) (by decide)) mv_X11_quarter ml_X11_343 mO.1 rfl rfl rfl (Nat.le_of_ble_eq_true rfl) (hrm (rm := { frames := 0, cells := 0, slots := 0, locals := 0 }) hZ ⟨Nat.le_of_ble_eq_true rfl, Nat.le_of_ble_eq_true rfl⟩) (hcs hZ ⟨Nat.le_of_ble_eq_true rfl, Nat.le_of_ble_eq_true rfl⟩) dX11_streams_232 (fun v G' hp => ?_)
              obtain ⟨rfl, rfl⟩ := hp
              rw [up_eq, up_up]
              show hX z 0 0 (T, (va_up K 15 (cQ (cQ (cQ (cQ (cQ (cQ (cQ (K 15) 0 4 8 12) 1 5 9 13) 2 6 10 14) 3 7 11 15) 0 5 10 15) 1 6 11 12) 2 7 8 13)), L, R, A) [(5, .int (nI i)), (0, .ref (A 63)), (1, .ref (A kq)), (2, .int (nI p)), (3, .int c), (4, .int n)] 235 []
              refine x_aload_n C dX11_streams_235 1 rfl rfl ?_
              refine x_iconst (v := nI 3) C dX11_streams_236 (by decide +kernel) ?_
              refine x_iconst (v := nI 4) C dX11_streams_237 (by decide +kernel) ?_
              refine x_bipush (v := nI 9) C dX11_streams_238 (by decide +kernel) ?_
              refine x_bipush (v := nI 14) C dX11_streams_240 (by decide +kernel) ?_
              refine x_callV C (ok_X11_quarter (I := (va_up K 15 (cQ (cQ (cQ (cQ (cQ (cQ (cQ (K 15) 0 4 8 12) 1 5 9 13) 2 6 10 14) 3 7 11 15) 0 5 10 15) 1 6 11 12) 2 7 8 13))) mO 3 4 9 14 (by decide) (by decide) (by decide) (by decide)) mv_X11_quarter ml_X11_343 mO.1 rfl rfl rfl (Nat.le_of_ble_eq_true rfl) (hrm (rm := { frames := 0, cells := 0, slots := 0, locals := 0 }) hZ ⟨Nat.le_of_ble_eq_true rfl, Nat.le_of_ble_eq_true rfl⟩) (hcs hZ ⟨Nat.le_of_ble_eq_true rfl, Nat.le_of_ble_eq_true rfl⟩) dX11_streams_242 (fun v G' hp => ?_)
              obtain ⟨rfl, rfl⟩ := hp
              rw [up_eq, up_up]
              show hX z 0 0 (T, (va_up K 15 (cQ (cQ (cQ (cQ (cQ (cQ (cQ (cQ (K 15) 0 4 8 12) 1 5 9 13) 2 6 10 14) 3 7 11 15) 0 5 10 15) 1 6 11 12) 2 7 8 13) 3 4 9 14)), L, R, A) [(5, .int (nI i)), (0, .ref (A 63)), (1, .ref (A kq)), (2, .int (nI p)), (3, .int c), (4, .int n)] 245 []
              refine x_iinc (v := nI (i + 1)) (lv' := [(5, .int (nI (i + 1))), (0, .ref (A 63)), (1, .ref (A kq)), (2, .int (nI p)), (3, .int c), (4, .int n)]) C dX11_streams_245 0 rfl (nI_inc 1) (Nat.lt_of_lt_of_eq (by decide) hN.symm) rfl ?_
              refine x_goto (tgt := 154) C dX11_streams_248 (by decide) ?_
              refine x_sub (lv' := _) [0, 1, 2, 3, 4, 5] rfl ?_
              exact ih154 (i + 1) (va_up K 15 (cQ (cQ (cQ (cQ (cQ (cQ (cQ (cQ (K 15) 0 4 8 12) 1 5 9 13) 2 6 10 14) 3 7 11 15) 0 5 10 15) 1 6 11 12) 2 7 8 13) 3 4 9 14)) (by omega) (by omega) (by rw [hK]; simp only [up_eq, up_up]; rfl)
        refine x_sub (lv' := _) [0, 1, 2, 3, 4, 5] rfl ?_
        exact L154 _ 0 K0 (Nat.lt_succ_self _) (by omega) (up_self _ _).symm
      · refine x_iload_n C dX11_streams_46 3 rfl rfl ?_
        refine x_iconst (v := nI 4) C dX11_streams_47 (by decide +kernel) ?_
        refine x_iload C dX11_streams_48 0 rfl ?_
        refine x_imulN C dX11_streams_50 ?_
        refine x_iaddN C dX11_streams_51 ?_
        refine x_istore (lv' := [(6, .int (nI (p + (4 * k)))), (5, .int (nI k)), (0, .ref (A 63)), (1, .ref (A kq)), (2, .int (nI p)), (3, .int c), (4, .int n)]) C dX11_streams_52 (Nat.lt_of_lt_of_eq (by decide) hN.symm) rfl ?_
        refine x_aload_n C dX11_streams_54 2 rfl rfl ?_
        refine x_getrN C fl_X11_122 mO.1 rfl (mO.2.2 14 _ rfl).1 dX11_streams_55 ?_
        refine x_iconst (v := nI 4) C dX11_streams_58 (by decide +kernel) ?_
        refine x_iload C dX11_streams_59 1 rfl ?_
        refine x_iaddN C dX11_streams_61 ?_
        refine x_aload_n C dX11_streams_62 3 rfl rfl ?_
        refine x_iload C dX11_streams_63 0 rfl ?_
        refine x_ialdN C hTk (by omega) (by omega) dX11_streams_65 ?_
        refine x_aload_n C dX11_streams_66 3 rfl rfl ?_
        refine x_iload C dX11_streams_67 0 rfl ?_
        refine x_iconst (v := nI 1) C dX11_streams_69 (by decide +kernel) ?_
        refine x_iaddN C dX11_streams_70 ?_
        refine x_ialdN C hTk (by omega) (by omega) dX11_streams_71 ?_
        refine x_bipush (v := nI 8) C dX11_streams_72 (by decide +kernel) ?_
        refine x_ishl C dX11_streams_74 ?_
        refine x_ior C dX11_streams_75 ?_
        refine x_aload_n C dX11_streams_76 3 rfl rfl ?_
        refine x_iload C dX11_streams_77 0 rfl ?_
        refine x_iconst (v := nI 2) C dX11_streams_79 (by decide +kernel) ?_
        refine x_iaddN C dX11_streams_80 ?_
        refine x_ialdN C hTk (by omega) (by omega) dX11_streams_81 ?_
        refine x_bipush (v := nI 16) C dX11_streams_82 (by decide +kernel) ?_
        refine x_ishl C dX11_streams_84 ?_
        refine x_ior C dX11_streams_85 ?_
        refine x_aload_n C dX11_streams_86 3 rfl rfl ?_
        refine x_iload C dX11_streams_87 0 rfl ?_
        refine x_iconst (v := nI 3) C dX11_streams_89 (by decide +kernel) ?_
        refine x_iaddN C dX11_streams_90 ?_
        refine x_ialdN C hTk (by omega) (by omega) dX11_streams_91 ?_
        refine x_bipush (v := nI 24) C dX11_streams_92 (by decide +kernel) ?_
        refine x_ishl C dX11_streams_94 ?_
        refine x_ior C dX11_streams_95 ?_
        refine x_iastN C (mO.2.2 14 _ rfl).2.1 (mO.2.2 14 _ rfl).2.2 (by omega) (by omega) dX11_streams_96 (fun I10 eI10 => ?_)
        refine x_iinc (v := nI (k + 1)) (lv' := [(5, .int (nI (k + 1))), (6, .int (nI (p + (4 * k)))), (0, .ref (A 63)), (1, .ref (A kq)), (2, .int (nI p)), (3, .int c), (4, .int n)]) C dX11_streams_97 1 rfl (nI_inc 1) (Nat.lt_of_lt_of_eq (by decide) hN.symm) rfl ?_
        refine x_goto (tgt := 39) C dX11_streams_100 (by decide) ?_
        refine x_sub (lv' := _) [0, 2, 3, 4, 5, 6] rfl ?_
        exact ih39 (k + 1) I10 (by omega) (by omega) (by rw [eI10, hJ]; simp only [up_eq, up_up, up_ne _ _ hk.1]; exact congrArg (va_up I4 14) (by rw [upd_up]; exact seg_s (cW (fun i => I kq (p + i))) _ 4 (by rw [eI4, eI3, eI2, eI1]; simp only [up_ne _ _ hk.1]; rfl)))
  refine x_sub (lv' := _) [0, 1, 2, 3, 4, 5] rfl ?_
  exact L39 _ 0 I4 (Nat.lt_succ_self _) (by omega) (seg_0 I4 14 4 _)

set_option maxHeartbeats 4000000 in
set_option maxRecDepth 100000 in
theorem ok_X11_ciphers {l : Launch} {a0 : Nat} {D : va_G} {sa : Nat → Nat} {T : Nat → Option hKd} {I : Nat → Nat → Int32} {L : Nat → Nat → Int64} {R : Nat → Nat → Option Nat} {A : Nat → Nat} (mO : isM T R A a0) (kq nk p : Nat) (n : Int32) (x nx f e : Nat) (hTk : T kq = some (.inl (.int, nk))) (hnk : nk < 2 ^ 31) (hp : p + 32 ≤ nk) (hk : kq ≠ 14 ∧ kq ≠ 15 ∧ kq ≠ 16 ∧ kq ≠ x) (hTx : T x = some (.inl (.int, nx))) (hnx : nx < 2 ^ 20) (hx0 : a0 ≤ A x) (he : f + e ≤ nx) (hx : x ≠ 14 ∧ x ≠ 15 ∧ x ≠ 16) : hM l a0 D sa yX11_ciphers cX11_ciphers 8 none { frames := 3, cells := 0, slots := 0, locals := 71 } [.ref (A 63), .ref (A kq), .int (nI p), .int n, .ref (A x), .int (nI f), .int (nI e)] (T, I, L, R, A) (fun r G' => r = none ∧ ∃ I', G' = (T, I', L, R, A) ∧ I' x = (fun t => if f ≤ t ∧ t < f + e then (fun j => I x (f + j) ^^^ strm (fun i => I kq (p + i)) n j) (t - f) else I x t) ∧ fx [14, 15, 16, x] I I') := by
  refine hM.of (by decide +kernel) (Nat.le_of_ble_eq_true rfl) ?_
  intro z hl h0 hD hS hN C E
  subst hl; subst h0; subst hD; subst hS
  have C : hC z RX11 cX11_ciphers := C
  have hZ := E.2.2.2.1
  show hX z 0 0 (T, I, L, R, A) [(0, .ref (A 63)), (1, .ref (A kq)), (2, .int (nI p)), (3, .int n), (4, .ref (A x)), (5, .int (nI f)), (6, .int (nI e))] 0 []
  refine x_iconst (v := nI 0) C dX11_ciphers_0 (by decide +kernel) ?_
  refine x_istore (lv' := [(7, .int (nI 0)), (0, .ref (A 63)), (1, .ref (A kq)), (2, .int (nI p)), (3, .int n), (4, .ref (A x)), (5, .int (nI f)), (6, .int (nI e))]) C dX11_ciphers_1 (Nat.lt_of_lt_of_eq (by decide) hN.symm) rfl ?_
  have L3 : ∀ (fuel_ : Nat) (i : Nat) (J : Nat → Nat → Int32), e - i < fuel_ → (i ≤ e) → (J x = (fun t => if f ≤ t ∧ t < f + i then (fun j => I x (f + j) ^^^ strm (fun i => I kq (p + i)) n j) (t - f) else I x t)) → (i % 64 ≠ 0 → ∀ s, s < 64 → J 16 s = cStr (fun i => I kq (p + i)) (nI (1 + i / 64)) n s) → (fx [14, 15, 16, x] I J) → hX z 0 0 (T, J, L, R, A) [(7, .int (nI i)), (0, .ref (A 63)), (1, .ref (A kq)), (2, .int (nI p)), (3, .int n), (4, .ref (A x)), (5, .int (nI f)), (6, .int (nI e))] 3 [] := by
    intro fuel_
    induction fuel_ with
    | zero => intro i J hmz; exact absurd hmz (Nat.not_lt_zero _)
    | succ fuel_ ih3 =>
      intro i J hmz hi hJ hP fJ
      refine x_iload C dX11_ciphers_3 0 rfl ?_
      refine x_iload C dX11_ciphers_5 7 rfl ?_
      refine x_icmp_geN (tgt := 59) C (by omega) (by omega) dX11_ciphers_7 (by decide) (fun c7 => ?_) (fun c7 => ?_)
      · exact x_vret C E (Nat.le_of_ble_eq_true rfl) (Nat.le_of_ble_eq_true rfl) dX11_ciphers_59 (⟨rfl, J, rfl, by rw [hJ, show e = i by omega], fJ⟩)
      · refine x_iload C dX11_ciphers_10 0 rfl ?_
        refine x_bipush (v := nI 64) C dX11_ciphers_12 (by decide +kernel) ?_
        refine x_iremN C (by omega) (by omega) (by omega) dX11_ciphers_14 ?_
        refine x_if_neN (tgt := 32) C (by omega) dX11_ciphers_15 (by decide) (fun c15 => ?_) (fun c15 => ?_)
        · have hB := hP c15
          refine x_aload C dX11_ciphers_32 5 rfl ?_
          refine x_iload C dX11_ciphers_34 6 rfl ?_
          refine x_iload C dX11_ciphers_36 0 rfl ?_
          refine x_iaddN C dX11_ciphers_38 ?_
          refine x_dup2 C dX11_ciphers_39 rfl rfl ?_
          refine x_ialdN C hTx (by omega) (by omega) dX11_ciphers_40 ?_
          refine x_aload_n C dX11_ciphers_41 1 rfl rfl ?_
          refine x_getrN C fl_X11_128 mO.1 rfl (mO.2.2 16 _ rfl).1 dX11_ciphers_42 ?_
          refine x_iload C dX11_ciphers_45 0 rfl ?_
          refine x_bipush (v := nI 64) C dX11_ciphers_47 (by decide +kernel) ?_
          refine x_iremN C (by omega) (by omega) (by omega) dX11_ciphers_49 ?_
          refine x_ialdN C (mO.2.2 16 _ rfl).2.1 (by omega) (by omega) dX11_ciphers_50 ?_
          refine x_ixor C dX11_ciphers_51 ?_
          refine x_iastN C hTx hx0 (by omega) (by omega) dX11_ciphers_52 (fun I1 eI1 => ?_)
          refine x_iinc (v := nI (i + 1)) (lv' := [(7, .int (nI (i + 1))), (0, .ref (A 63)), (1, .ref (A kq)), (2, .int (nI p)), (3, .int n), (4, .ref (A x)), (5, .int (nI f)), (6, .int (nI e))]) C dX11_ciphers_53 0 rfl (nI_inc 1) (Nat.lt_of_lt_of_eq (by decide) hN.symm) rfl ?_
          refine x_goto (tgt := 3) C dX11_ciphers_56 (by decide) ?_
          refine x_sub (lv' := _) [0, 1, 2, 3, 4, 5, 6, 7] rfl ?_
          exact ih3 (i + 1) I1 (by omega) (by omega) (by rw [eI1, up_eq, hJ]; rw [upd_up]; exact seg_s (fun j => I x (f + j) ^^^ strm (fun i => I kq (p + i)) n j) _ f (by dsimp only; rw [if_neg (by omega), hB _ (by omega)]; rfl)) (fun h s hs => by rw [eI1, up_ne _ _ (Ne.symm hx.2.2), hB s hs, show (i + 1) / 64 = i / 64 by omega]) (by rw [eI1]; exact fJ.up (by simp))
        · refine x_aload_n C dX11_ciphers_18 1 rfl rfl ?_
          refine x_aload_n C dX11_ciphers_19 2 rfl rfl ?_
          refine x_iload_n C dX11_ciphers_20 3 rfl rfl ?_
          refine x_iconst (v := nI 1) C dX11_ciphers_21 (by decide +kernel) ?_
          refine x_iload C dX11_ciphers_22 0 rfl ?_
          refine x_bipush (v := nI 64) C dX11_ciphers_24 (by decide +kernel) ?_
          refine x_idivN C (by omega) (by omega) (by omega) dX11_ciphers_26 ?_
          refine x_iaddN C dX11_ciphers_27 ?_
          refine x_iload_n C dX11_ciphers_28 4 rfl rfl ?_
          refine x_callV C (ok_X11_streams mO kq nk p (nI (1 + i / 64)) n hTk hnk hp ⟨hk.1, hk.2.1, hk.2.2.1⟩) mv_X11_streams ml_X11_353 mO.1 rfl rfl rfl (Nat.le_of_ble_eq_true rfl) (hrm (rm := { frames := 0, cells := 0, slots := 0, locals := 0 }) hZ ⟨Nat.le_of_ble_eq_true rfl, Nat.le_of_ble_eq_true rfl⟩) (hcs hZ ⟨Nat.le_of_ble_eq_true rfl, Nat.le_of_ble_eq_true rfl⟩) dX11_ciphers_29 (fun v G' hp => ?_)
          obtain ⟨rfl, J1, rfl, b1, f1⟩ := hp
          have hB : ∀ s, s < 64 → J1 16 s = cStr (fun i => I kq (p + i)) (nI (1 + i / 64)) n s := fun s hs => by rw [b1 s hs, fJ kq (by simp [hk])]
          have hx1 : J1 x = J x := f1 x (by simp [hx])
          have fJ1 : fx [14, 15, 16, x] I J1 := fJ.tr f1 (by first | (simp; done) | (intro q hq; simp at hq ⊢; omega))
          show hX z 0 0 (T, J1, L, R, A) [(7, .int (nI i)), (0, .ref (A 63)), (1, .ref (A kq)), (2, .int (nI p)), (3, .int n), (4, .ref (A x)), (5, .int (nI f)), (6, .int (nI e))] 32 []
          refine x_aload C dX11_ciphers_32 5 rfl ?_
          refine x_iload C dX11_ciphers_34 6 rfl ?_
          refine x_iload C dX11_ciphers_36 0 rfl ?_
          refine x_iaddN C dX11_ciphers_38 ?_
          refine x_dup2 C dX11_ciphers_39 rfl rfl ?_
          refine x_ialdN C hTx (by omega) (by omega) dX11_ciphers_40 ?_
          refine x_aload_n C dX11_ciphers_41 1 rfl rfl ?_
          refine x_getrN C fl_X11_128 mO.1 rfl (mO.2.2 16 _ rfl).1 dX11_ciphers_42 ?_
          refine x_iload C dX11_ciphers_45 0 rfl ?_
          refine x_bipush (v := nI 64) C dX11_ciphers_47 (by decide +kernel) ?_
          refine x_iremN C (by omega) (by omega) (by omega) dX11_ciphers_49 ?_
          refine x_ialdN C (mO.2.2 16 _ rfl).2.1 (by omega) (by omega) dX11_ciphers_50 ?_
          refine x_ixor C dX11_ciphers_51 ?_
          refine x_iastN C hTx hx0 (by omega) (by omega) dX11_ciphers_52 (fun I2 eI2 => ?_)
          refine x_iinc (v := nI (i + 1)) (lv' := [(7, .int (nI (i + 1))), (0, .ref (A 63)), (1, .ref (A kq)), (2, .int (nI p)), (3, .int n), (4, .ref (A x)), (5, .int (nI f)), (6, .int (nI e))]) C dX11_ciphers_53 0 rfl (nI_inc 1) (Nat.lt_of_lt_of_eq (by decide) hN.symm) rfl ?_
          refine x_goto (tgt := 3) C dX11_ciphers_56 (by decide) ?_
          refine x_sub (lv' := _) [0, 1, 2, 3, 4, 5, 6, 7] rfl ?_
          exact ih3 (i + 1) I2 (by omega) (by omega) (by rw [eI2, up_eq, hx1, hJ]; rw [upd_up]; exact seg_s (fun j => I x (f + j) ^^^ strm (fun i => I kq (p + i)) n j) _ f (by dsimp only; rw [if_neg (by omega), hB _ (by omega)]; rfl)) (fun h s hs => by rw [eI2, up_ne _ _ (Ne.symm hx.2.2), hB s hs, show (i + 1) / 64 = i / 64 by omega]) (by rw [eI2]; exact fJ1.up (by simp))
  refine x_sub (lv' := _) [0, 1, 2, 3, 4, 5, 6, 7] rfl ?_
  exact L3 _ 0 I (Nat.lt_succ_self _) (by omega) (by funext t; rw [if_neg (by omega)]) (fun h => absurd rfl h) fx.rf

