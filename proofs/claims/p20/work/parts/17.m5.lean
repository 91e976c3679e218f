theorem fill_0 {α : Type} (I : Nat → Nat → α) (q : Nat) (f : Nat → α) : I = va_up I q (fun x => if x < 0 then f x else I q x) := by
  conv => lhs; rw [← up_self I q]
  congr 1
/-- the model's arrays, by its fields -/
def mKL : List (Option (FieldType × Nat)) := [some (.int, 400), none, some (.int, 8), some (.int, 64), some (.int, 8), some (.int, 64), some (.int, 32), some (.int, 32), some (.int, 33), some (.int, 32), some (.long, 160), some (.long, 32), some (.int, 32), some (.int, 32), some (.int, 16), some (.int, 16), some (.int, 64), some (.int, 17), some (.int, 17), some (.int, 17), some (.int, 17), some (.int, 32), some (.int, 200), some (.int, 16), none, some (.boolean, 16), some (.int, 8), some (.int, 48), some (.int, 240), some (.boolean, 2), some (.boolean, 2), some (.boolean, 6), some (.boolean, 6), none, some (.int, 5), some (.int, 5), some (.boolean, 5), some (.int, 5), some (.int, 5), some (.int, 5), some (.int, 5), some (.boolean, 5), some (.boolean, 5), some (.int, 5), some (.int, 5), some (.boolean, 5), some (.boolean, 5), some (.int, 160), some (.int, 160), some (.int, 160), some (.int, 160), some (.int, 160), some (.int, 160), some (.int, 160), some (.int, 160), some (.int, 64), none, some (.int, 400), none, some (.int, 400), none, some (.int, 400), some (.int, 32)]
def mK (k : Nat) : Option (FieldType × Nat) := mKL.getD k none
/-- the model's cells: its object has the number 63, the array of its field k the number k -/
def isM (T : Nat → Option hKd) (R : Nat → Nat → Option Nat) (A : Nat → Nat) (a0 : Nat) : Prop := T 63 = some (.inr 11) ∧ a0 ≤ A 63 ∧ ∀ (k : Nat) (t : FieldType × Nat), mK k = some t → R 63 k = some k ∧ T k = some (.inl t) ∧ a0 ≤ A k
set_option maxHeartbeats 4000000 in
set_option maxRecDepth 100000 in
theorem ok_turn {l : Launch} {a0 : Nat} {D : va_G} {sa : Nat → Nat} {T : Nat → Option hKd} {I : Nat → Nat → Int32} {L : Nat → Nat → Int64} {R : Nat → Nat → Option Nat} {A : Nat → Nat} (v : Int32) (n : Nat) (hn : n ≤ 32) : hM l a0 D sa yX11_turned cX11_turned 2 (some .int) { frames := 0, cells := 0, slots := 0, locals := 0 } [.int v, .int (nI n)] (T, I, L, R, A) (fun r G' => r = some (.int (rot v n)) ∧ G' = (T, I, L, R, A)) := by
  refine hM.of (by decide +kernel) (Nat.le_of_ble_eq_true rfl) ?_
  intro z hl h0 hD hS hN C E
  subst hl; subst h0; subst hD; subst hS
  have C : hC z RX11 cX11_turned := C
  have hZ := E.2.2.2.1
  show hX z 0 0 (T, I, L, R, A) [(0, .int v), (1, .int (nI n))] 0 []
  refine x_iload_n C dX11_turned_0 0 rfl rfl ?_
  refine x_iload_n C dX11_turned_1 1 rfl rfl ?_
  refine x_iushr C dX11_turned_2 ?_
  refine x_iload_n C dX11_turned_3 0 rfl rfl ?_
  refine x_bipush (v := nI 32) C dX11_turned_4 (by decide +kernel) ?_
  refine x_iload_n C dX11_turned_6 1 rfl rfl ?_
  refine x_isubN C (by omega) dX11_turned_7 ?_
  refine x_ishl C dX11_turned_8 ?_
  refine x_ior C dX11_turned_9 ?_
  exact x_iret C E (Nat.le_of_ble_eq_true rfl) (Nat.le_of_ble_eq_true rfl) dX11_turned_10 (⟨rfl, rfl⟩)

set_option maxHeartbeats 4000000 in
set_option maxRecDepth 100000 in
theorem ok_X11_padded {l : Launch} {a0 : Nat} {D : va_G} {sa : Nat → Nat} {T : Nat → Option hKd} {I : Nat → Nat → Int32} {L : Nat → Nat → Int64} {R : Nat → Nat → Option Nat} {A : Nat → Nat} (mO : isM T R A a0) (n i al : Nat) (hn : I 63 1 = nI n) (hn4 : n ≤ 400) (hal : al = pall n) (hi : i < al) : hM l a0 D sa yX11_padded cX11_padded 3 (some .int) { frames := 0, cells := 0, slots := 0, locals := 0 } [.ref (A 63), .int (nI i), .int (nI al)] (T, I, L, R, A) (fun r G' => r = some (.int (padF (I 0) n i)) ∧ G' = (T, I, L, R, A)) := by
  refine hM.of (by decide +kernel) (Nat.le_of_ble_eq_true rfl) ?_
  intro z hl h0 hD hS hN C E
  subst hl; subst h0; subst hD; subst hS
  have C : hC z RX11 cX11_padded := C
  have hZ := E.2.2.2.1
  show hX z 0 0 (T, I, L, R, A) [(0, .ref (A 63)), (1, .int (nI i)), (2, .int (nI al))] 0 []
  have hpl := pall_ge n
  have hp2 : pall n ≤ n + 72 := by unfold pall; omega
  refine x_iload_n C dX11_padded_0 1 rfl rfl ?_
  refine x_aload_n C dX11_padded_1 0 rfl rfl ?_
  refine x_getiN C fl_X11_255 mO.1 rfl dX11_padded_2 ?_
  refine x_eqi (y := nI n) hn ?_
  refine x_icmp_geN (tgt := 15) C (by omega) (by omega) dX11_padded_5 (by decide) (fun c5 => ?_) (fun c5 => ?_)
  · refine x_iload_n C dX11_padded_15 1 rfl rfl ?_
    refine x_aload_n C dX11_padded_16 0 rfl rfl ?_
    refine x_getiN C fl_X11_255 mO.1 rfl dX11_padded_17 ?_
    refine x_eqi (y := nI n) hn ?_
    refine x_icmp_neN (tgt := 27) C (by omega) (by omega) dX11_padded_20 (by decide) (fun c20 => ?_) (fun c20 => ?_)
    · refine x_iload_n C dX11_padded_27 1 rfl rfl ?_
      refine x_iload_n C dX11_padded_28 2 rfl rfl ?_
      refine x_iconst (v := nI 4) C dX11_padded_29 (by decide +kernel) ?_
      refine x_isubN C (by omega) dX11_padded_30 ?_
      refine x_icmp_geN (tgt := 38) C (by omega) (by omega) dX11_padded_31 (by decide) (fun c31 => ?_) (fun c31 => ?_)
      · refine x_bipush (v := nI 8) C dX11_padded_38 (by decide +kernel) ?_
        refine x_aload_n C dX11_padded_40 0 rfl rfl ?_
        refine x_getiN C fl_X11_255 mO.1 rfl dX11_padded_41 ?_
        refine x_eqi (y := nI n) hn ?_
        refine x_imulN C dX11_padded_44 ?_
        refine x_bipush (v := nI 8) C dX11_padded_45 (by decide +kernel) ?_
        refine x_iload_n C dX11_padded_47 2 rfl rfl ?_
        refine x_iconst (v := nI 1) C dX11_padded_48 (by decide +kernel) ?_
        refine x_isubN C (by omega) dX11_padded_49 ?_
        refine x_iload_n C dX11_padded_50 1 rfl rfl ?_
        refine x_isubN C (by omega) dX11_padded_51 ?_
        refine x_imulN C dX11_padded_52 ?_
        refine x_iushr C dX11_padded_53 ?_
        refine x_sipush (v := nI 255) C dX11_padded_54 (by decide +kernel) ?_
        refine x_iand C dX11_padded_57 ?_
        exact x_iret C E (Nat.le_of_ble_eq_true rfl) (Nat.le_of_ble_eq_true rfl) dX11_padded_58 (⟨by unfold padF; rw [if_neg (by omega), if_neg (by omega), if_neg (by omega), hal], rfl⟩)
      · refine x_iconst (v := nI 0) C dX11_padded_34 (by decide +kernel) ?_
        refine x_goto (tgt := 58) C dX11_padded_35 (by decide) ?_
        exact x_iret C E (Nat.le_of_ble_eq_true rfl) (Nat.le_of_ble_eq_true rfl) dX11_padded_58 (⟨by unfold padF; rw [if_neg (by omega), if_neg (by omega), if_pos (by omega)], rfl⟩)
    · refine x_sipush (v := nI 128) C dX11_padded_23 (by decide +kernel) ?_
      exact x_iret C E (Nat.le_of_ble_eq_true rfl) (Nat.le_of_ble_eq_true rfl) dX11_padded_26 (⟨by unfold padF; rw [if_neg (by omega), if_pos c20], rfl⟩)
  · refine x_aload_n C dX11_padded_8 0 rfl rfl ?_
    refine x_getrN C fl_X11_7 mO.1 rfl (mO.2.2 0 _ rfl).1 dX11_padded_9 ?_
    refine x_iload_n C dX11_padded_12 1 rfl rfl ?_
    refine x_ialdN C (mO.2.2 0 _ rfl).2.1 (by omega) (by omega) dX11_padded_13 ?_
    exact x_iret C E (Nat.le_of_ble_eq_true rfl) (Nat.le_of_ble_eq_true rfl) dX11_padded_14 (⟨by unfold padF; rw [if_pos c5], rfl⟩)

set_option maxHeartbeats 4000000 in
set_option maxRecDepth 100000 in
theorem ok_X11_block {l : Launch} {a0 : Nat} {D : va_G} {sa : Nat → Nat} {T : Nat → Option hKd} {I : Nat → Nat → Int32} {L : Nat → Nat → Int64} {R : Nat → Nat → Option Nat} {A : Nat → Nat} (mO : isM T R A a0) (n fr al : Nat) (hn : I 63 1 = nI n) (hn4 : n ≤ 400) (hal : al = pall n) (hfr : fr + 64 ≤ al) (hK : ∀ t, t < 64 → I 5 t = kSha t) : hM l a0 D sa yX11_block cX11_block 14 none { frames := 1, cells := 0, slots := 0, locals := 22 } [.ref (A 63), .int (nI fr), .int (nI al)] (T, I, L, R, A) (fun r G' => r = none ∧ G' = (T, va_up (va_up I 3 (sW (fun x => if x < 16 then wrd (padF (I 0) n) (fr + 4 * x) else I 3 x) 48)) 2 (shaB (I 2) (fun x => if x < 16 then wrd (padF (I 0) n) (fr + 4 * x) else I 3 x)), L, R, A)) := by
  refine hM.of (by decide +kernel) (Nat.le_of_ble_eq_true rfl) ?_
  intro z hl h0 hD hS hN C E
  subst hl; subst h0; subst hD; subst hS
  have C : hC z RX11 cX11_block := C
  have hZ := E.2.2.2.1
  show hX z 0 0 (T, I, L, R, A) [(0, .ref (A 63)), (1, .int (nI fr)), (2, .int (nI al))] 0 []
  have hp2 : pall n ≤ n + 72 := by unfold pall; omega
  refine x_iconst (v := nI 0) C dX11_block_0 (by decide +kernel) ?_
  refine x_istore_n (lv' := [(3, .int (nI 0)), (0, .ref (A 63)), (1, .int (nI fr)), (2, .int (nI al))]) C dX11_block_1 rfl (Nat.lt_of_lt_of_eq (by decide) hN.symm) rfl ?_
  have L2 : ∀ (f : Nat) (t : Nat) (J : Nat → Nat → Int32), 16 - t < f → (t ≤ 16) → (J = va_up I 3 (fun x => if x < t then wrd (padF (I 0) n) (fr + 4 * x) else I 3 x)) → hX z 0 0 (T, J, L, R, A) [(3, .int (nI t)), (0, .ref (A 63)), (1, .int (nI fr)), (2, .int (nI al))] 2 [] := by
    intro f
    induction f with
    | zero => intro t J hmz; exact absurd hmz (Nat.not_lt_zero _)
    | succ f ih2 =>
      intro t J hmz ht hJ
      refine x_iload_n C dX11_block_2 0 rfl rfl ?_
      refine x_bipush (v := nI 16) C dX11_block_3 (by decide +kernel) ?_
      refine x_icmp_geN (tgt := 73) C (by omega) (by omega) dX11_block_5 (by decide) (fun c5 => ?_) (fun c5 => ?_)
      · refine x_bipush (v := nI 16) C dX11_block_73 (by decide +kernel) ?_
        refine x_istore_n (lv' := [(3, .int (nI 16)), (0, .ref (A 63)), (1, .int (nI fr)), (2, .int (nI al))]) C dX11_block_75 rfl (Nat.lt_of_lt_of_eq (by decide) hN.symm) rfl ?_
        have L76 : ∀ (f : Nat) (i : Nat) (K : Nat → Nat → Int32), 64 - i < f → (16 ≤ i) → (i ≤ 64) → (K = va_up I 3 (sW (fun x => if x < 16 then wrd (padF (I 0) n) (fr + 4 * x) else I 3 x) (i - 16))) → hX z 0 0 (T, K, L, R, A) [(3, .int (nI i)), (0, .ref (A 63)), (1, .int (nI fr)), (2, .int (nI al))] 76 [] := by
          intro f
          induction f with
          | zero => intro i K hmz; exact absurd hmz (Nat.not_lt_zero _)
          | succ f ih76 =>
            intro i K hmz hi hi2 hJ2
            refine x_iload_n C dX11_block_76 0 rfl rfl ?_
            refine x_bipush (v := nI 64) C dX11_block_77 (by decide +kernel) ?_
            refine x_icmp_geN (tgt := 177) C (by omega) (by omega) dX11_block_79 (by decide) (fun c79 => ?_) (fun c79 => ?_)
            · refine x_aload_n C dX11_block_177 1 rfl rfl ?_
              refine x_getrN C fl_X11_13 mO.1 rfl (mO.2.2 2 _ rfl).1 dX11_block_178 ?_
              refine x_iconst (v := nI 0) C dX11_block_181 (by decide +kernel) ?_
              refine x_ialdN C (mO.2.2 2 _ rfl).2.1 (by omega) (by omega) dX11_block_182 ?_
              refine x_istore_n (lv' := [(3, .int (K 2 0)), (0, .ref (A 63)), (1, .int (nI fr)), (2, .int (nI al))]) C dX11_block_183 rfl (Nat.lt_of_lt_of_eq (by decide) hN.symm) rfl ?_
              refine x_aload_n C dX11_block_184 1 rfl rfl ?_
              refine x_getrN C fl_X11_13 mO.1 rfl (mO.2.2 2 _ rfl).1 dX11_block_185 ?_
              refine x_iconst (v := nI 1) C dX11_block_188 (by decide +kernel) ?_
              refine x_ialdN C (mO.2.2 2 _ rfl).2.1 (by omega) (by omega) dX11_block_189 ?_
              refine x_istore (lv' := [(4, .int (K 2 1)), (3, .int (K 2 0)), (0, .ref (A 63)), (1, .int (nI fr)), (2, .int (nI al))]) C dX11_block_190 (Nat.lt_of_lt_of_eq (by decide) hN.symm) rfl ?_
              refine x_aload_n C dX11_block_192 2 rfl rfl ?_
              refine x_getrN C fl_X11_13 mO.1 rfl (mO.2.2 2 _ rfl).1 dX11_block_193 ?_
              refine x_iconst (v := nI 2) C dX11_block_196 (by decide +kernel) ?_
              refine x_ialdN C (mO.2.2 2 _ rfl).2.1 (by omega) (by omega) dX11_block_197 ?_
              refine x_istore (lv' := [(5, .int (K 2 2)), (4, .int (K 2 1)), (3, .int (K 2 0)), (0, .ref (A 63)), (1, .int (nI fr)), (2, .int (nI al))]) C dX11_block_198 (Nat.lt_of_lt_of_eq (by decide) hN.symm) rfl ?_
              refine x_aload_n C dX11_block_200 3 rfl rfl ?_
              refine x_getrN C fl_X11_13 mO.1 rfl (mO.2.2 2 _ rfl).1 dX11_block_201 ?_
              refine x_iconst (v := nI 3) C dX11_block_204 (by decide +kernel) ?_
              refine x_ialdN C (mO.2.2 2 _ rfl).2.1 (by omega) (by omega) dX11_block_205 ?_
              refine x_istore (lv' := [(6, .int (K 2 3)), (5, .int (K 2 2)), (4, .int (K 2 1)), (3, .int (K 2 0)), (0, .ref (A 63)), (1, .int (nI fr)), (2, .int (nI al))]) C dX11_block_206 (Nat.lt_of_lt_of_eq (by decide) hN.symm) rfl ?_
              refine x_aload_n C dX11_block_208 4 rfl rfl ?_
              refine x_getrN C fl_X11_13 mO.1 rfl (mO.2.2 2 _ rfl).1 dX11_block_209 ?_
              refine x_iconst (v := nI 4) C dX11_block_212 (by decide +kernel) ?_
              refine x_ialdN C (mO.2.2 2 _ rfl).2.1 (by omega) (by omega) dX11_block_213 ?_
              refine x_istore (lv' := [(7, .int (K 2 4)), (6, .int (K 2 3)), (5, .int (K 2 2)), (4, .int (K 2 1)), (3, .int (K 2 0)), (0, .ref (A 63)), (1, .int (nI fr)), (2, .int (nI al))]) C dX11_block_214 (Nat.lt_of_lt_of_eq (by decide) hN.symm) rfl ?_
              refine x_aload_n C dX11_block_216 5 rfl rfl ?_
              refine x_getrN C fl_X11_13 mO.1 rfl (mO.2.2 2 _ rfl).1 dX11_block_217 ?_
              refine x_iconst (v := nI 5) C dX11_block_220 (by decide +kernel) ?_
              refine x_ialdN C (mO.2.2 2 _ rfl).2.1 (by omega) (by omega) dX11_block_221 ?_
              refine x_istore (lv' := [(8, .int (K 2 5)), (7, .int (K 2 4)), (6, .int (K 2 3)), (5, .int (K 2 2)), (4, .int (K 2 1)), (3, .int (K 2 0)), (0, .ref (A 63)), (1, .int (nI fr)), (2, .int (nI al))]) C dX11_block_222 (Nat.lt_of_lt_of_eq (by decide) hN.symm) rfl ?_
              refine x_aload_n C dX11_block_224 6 rfl rfl ?_
              refine x_getrN C fl_X11_13 mO.1 rfl (mO.2.2 2 _ rfl).1 dX11_block_225 ?_
              refine x_bipush (v := nI 6) C dX11_block_228 (by decide +kernel) ?_
              refine x_ialdN C (mO.2.2 2 _ rfl).2.1 (by omega) (by omega) dX11_block_230 ?_
              refine x_istore (lv' := [(9, .int (K 2 6)), (8, .int (K 2 5)), (7, .int (K 2 4)), (6, .int (K 2 3)), (5, .int (K 2 2)), (4, .int (K 2 1)), (3, .int (K 2 0)), (0, .ref (A 63)), (1, .int (nI fr)), (2, .int (nI al))]) C dX11_block_231 (Nat.lt_of_lt_of_eq (by decide) hN.symm) rfl ?_
              refine x_aload_n C dX11_block_233 7 rfl rfl ?_
              refine x_getrN C fl_X11_13 mO.1 rfl (mO.2.2 2 _ rfl).1 dX11_block_234 ?_
              refine x_bipush (v := nI 7) C dX11_block_237 (by decide +kernel) ?_
              refine x_ialdN C (mO.2.2 2 _ rfl).2.1 (by omega) (by omega) dX11_block_239 ?_
              refine x_istore (lv' := [(10, .int (K 2 7)), (9, .int (K 2 6)), (8, .int (K 2 5)), (7, .int (K 2 4)), (6, .int (K 2 3)), (5, .int (K 2 2)), (4, .int (K 2 1)), (3, .int (K 2 0)), (0, .ref (A 63)), (1, .int (nI fr)), (2, .int (nI al))]) C dX11_block_240 (Nat.lt_of_lt_of_eq (by decide) hN.symm) rfl ?_
              refine x_iconst (v := nI 0) C dX11_block_242 (by decide +kernel) ?_
              refine x_istore (lv' := [(11, .int (nI 0)), (10, .int (K 2 7)), (9, .int (K 2 6)), (8, .int (K 2 5)), (7, .int (K 2 4)), (6, .int (K 2 3)), (5, .int (K 2 2)), (4, .int (K 2 1)), (3, .int (K 2 0)), (0, .ref (A 63)), (1, .int (nI fr)), (2, .int (nI al))]) C dX11_block_243 (Nat.lt_of_lt_of_eq (by decide) hN.symm) rfl ?_
              have L245 : ∀ (f : Nat) (q : Nat) (a : Int32) (b : Int32) (c : Int32) (d : Int32) (e : Int32) (f0 : Int32) (g : Int32) (k : Int32), 64 - q < f → (q ≤ 64) → (sR (K 3) (sI (K 2)) q = (a, b, c, d, e, f0, g, k)) → hX z 0 0 (T, K, L, R, A) [(11, .int (nI q)), (10, .int k), (9, .int g), (8, .int f0), (7, .int e), (6, .int d), (5, .int c), (4, .int b), (3, .int a), (0, .ref (A 63)), (1, .int (nI fr)), (2, .int (nI al))] 245 [] := by
                intro f
                induction f with
                | zero => intro q a b c d e f0 g k hmz; exact absurd hmz (Nat.not_lt_zero _)
                | succ f ih245 =>
                  intro q a b c d e f0 g k hmz hq hr
                  refine x_iload C dX11_block_245 0 rfl ?_
                  refine x_bipush (v := nI 64) C dX11_block_247 (by decide +kernel) ?_
                  refine x_icmp_geN (tgt := 389) C (by omega) (by omega) dX11_block_249 (by decide) (fun c249 => ?_) (fun c249 => ?_)
                  · refine x_aload_n C dX11_block_389 9 rfl rfl ?_
                    refine x_getrN C fl_X11_13 mO.1 rfl (mO.2.2 2 _ rfl).1 dX11_block_390 ?_
                    refine x_iconst (v := nI 0) C dX11_block_393 (by decide +kernel) ?_
                    refine x_dup2 C dX11_block_394 rfl rfl ?_
                    refine x_ialdN C (mO.2.2 2 _ rfl).2.1 (by omega) (by omega) dX11_block_395 ?_
                    refine x_iload_n C dX11_block_396 8 rfl rfl ?_
                    refine x_iadd C dX11_block_397 ?_
                    refine x_iastN C (mO.2.2 2 _ rfl).2.1 (mO.2.2 2 _ rfl).2.2 (by omega) (by omega) dX11_block_398 (fun I1 eI1 => ?_)
                    refine x_aload_n C dX11_block_399 9 rfl rfl ?_
                    refine x_getrN C fl_X11_13 mO.1 rfl (mO.2.2 2 _ rfl).1 dX11_block_400 ?_
                    refine x_iconst (v := nI 1) C dX11_block_403 (by decide +kernel) ?_
                    refine x_dup2 C dX11_block_404 rfl rfl ?_
                    refine x_ialdN C (mO.2.2 2 _ rfl).2.1 (by omega) (by omega) dX11_block_405 ?_
                    refine x_iload C dX11_block_406 7 rfl ?_
                    refine x_iadd C dX11_block_408 ?_
                    refine x_iastN C (mO.2.2 2 _ rfl).2.1 (mO.2.2 2 _ rfl).2.2 (by omega) (by omega) dX11_block_409 (fun I2 eI2 => ?_)
                    refine x_aload_n C dX11_block_410 9 rfl rfl ?_
                    refine x_getrN C fl_X11_13 mO.1 rfl (mO.2.2 2 _ rfl).1 dX11_block_411 ?_
                    refine x_iconst (v := nI 2) C dX11_block_414 (by decide +kernel) ?_
                    refine x_dup2 C dX11_block_415 rfl rfl ?_
                    refine x_ialdN C (mO.2.2 2 _ rfl).2.1 (by omega) (by omega) dX11_block_416 ?_
                    refine x_iload C dX11_block_417 6 rfl ?_
                    refine x_iadd C dX11_block_419 ?_
                    refine x_iastN C (mO.2.2 2 _ rfl).2.1 (mO.2.2 2 _ rfl).2.2 (by omega) (by omega) dX11_block_420 (fun I3 eI3 => ?_)
                    refine x_aload_n C dX11_block_421 9 rfl rfl ?_
                    refine x_getrN C fl_X11_13 mO.1 rfl (mO.2.2 2 _ rfl).1 dX11_block_422 ?_
                    refine x_iconst (v := nI 3) C dX11_block_425 (by decide +kernel) ?_
                    refine x_dup2 C dX11_block_426 rfl rfl ?_
                    refine x_ialdN C (mO.2.2 2 _ rfl).2.1 (by omega) (by omega) dX11_block_427 ?_
                    refine x_iload C dX11_block_428 5 rfl ?_
                    refine x_iadd C dX11_block_430 ?_
                    refine x_iastN C (mO.2.2 2 _ rfl).2.1 (mO.2.2 2 _ rfl).2.2 (by omega) (by omega) dX11_block_431 (fun I4 eI4 => ?_)
                    refine x_aload_n C dX11_block_432 9 rfl rfl ?_
                    refine x_getrN C fl_X11_13 mO.1 rfl (mO.2.2 2 _ rfl).1 dX11_block_433 ?_
                    refine x_iconst (v := nI 4) C dX11_block_436 (by decide +kernel) ?_
                    refine x_dup2 C dX11_block_437 rfl rfl ?_
                    refine x_ialdN C (mO.2.2 2 _ rfl).2.1 (by omega) (by omega) dX11_block_438 ?_
                    refine x_iload C dX11_block_439 4 rfl ?_
                    refine x_iadd C dX11_block_441 ?_
                    refine x_iastN C (mO.2.2 2 _ rfl).2.1 (mO.2.2 2 _ rfl).2.2 (by omega) (by omega) dX11_block_442 (fun I5 eI5 => ?_)
                    refine x_aload_n C dX11_block_443 9 rfl rfl ?_
                    refine x_getrN C fl_X11_13 mO.1 rfl (mO.2.2 2 _ rfl).1 dX11_block_444 ?_
                    refine x_iconst (v := nI 5) C dX11_block_447 (by decide +kernel) ?_
                    refine x_dup2 C dX11_block_448 rfl rfl ?_
                    refine x_ialdN C (mO.2.2 2 _ rfl).2.1 (by omega) (by omega) dX11_block_449 ?_
                    refine x_iload C dX11_block_450 3 rfl ?_
                    refine x_iadd C dX11_block_452 ?_
                    refine x_iastN C (mO.2.2 2 _ rfl).2.1 (mO.2.2 2 _ rfl).2.2 (by omega) (by omega) dX11_block_453 (fun I6 eI6 => ?_)
                    refine x_aload_n C dX11_block_454 9 rfl rfl ?_
                    refine x_getrN C fl_X11_13 mO.1 rfl (mO.2.2 2 _ rfl).1 dX11_block_455 ?_
                    refine x_bipush (v := nI 6) C dX11_block_458 (by decide +kernel) ?_
                    refine x_dup2 C dX11_block_460 rfl rfl ?_
                    refine x_ialdN C (mO.2.2 2 _ rfl).2.1 (by omega) (by omega) dX11_block_461 ?_
                    refine x_iload C dX11_block_462 2 rfl ?_
                    refine x_iadd C dX11_block_464 ?_
                    refine x_iastN C (mO.2.2 2 _ rfl).2.1 (mO.2.2 2 _ rfl).2.2 (by omega) (by omega) dX11_block_465 (fun I7 eI7 => ?_)
                    refine x_aload_n C dX11_block_466 9 rfl rfl ?_
                    refine x_getrN C fl_X11_13 mO.1 rfl (mO.2.2 2 _ rfl).1 dX11_block_467 ?_
                    refine x_bipush (v := nI 7) C dX11_block_470 (by decide +kernel) ?_
                    refine x_dup2 C dX11_block_472 rfl rfl ?_
                    refine x_ialdN C (mO.2.2 2 _ rfl).2.1 (by omega) (by omega) dX11_block_473 ?_
                    refine x_iload C dX11_block_474 1 rfl ?_
                    refine x_iadd C dX11_block_476 ?_
                    refine x_iastN C (mO.2.2 2 _ rfl).2.1 (mO.2.2 2 _ rfl).2.2 (by omega) (by omega) dX11_block_477 (fun I8 eI8 => ?_)
                    exact x_vret C E (Nat.le_of_ble_eq_true rfl) (Nat.le_of_ble_eq_true rfl) dX11_block_478 (⟨rfl, by
                        have hi3 : i = 64 := by omega
                        have hq3 : q = 64 := by omega
                        subst hi3; subst hq3
                        have e1 : K 3 = sW (fun x => if x < 16 then wrd (padF (I 0) n) (fr + 4 * x) else I 3 x) 48 := by rw [hJ2, up_eq]
                        have e2 : K 2 = I 2 := by rw [hJ2, up_ne _ _ (by decide)]
                        rw [e1, e2] at hr
                        simp only [eI1, eI2, eI3, eI4, eI5, eI6, eI7, eI8, up_eq, up_up, e2]
                        rw [hJ2]
                        unfold shaB
                        rw [hr]
                        rfl⟩)
                  · refine x_iload C dX11_block_252 1 rfl ?_
                    refine x_iload C dX11_block_254 4 rfl ?_
                    refine x_bipush (v := nI 6) C dX11_block_256 (by decide +kernel) ?_
                    refine x_callS C (ok_turn e 6 (by decide)) ms_X11_turned ml_X11_263 rfl rfl (Nat.le_of_ble_eq_true rfl) (hrm (rm := { frames := 0, cells := 0, slots := 0, locals := 0 }) hZ ⟨Nat.le_of_ble_eq_true rfl, Nat.le_of_ble_eq_true rfl⟩) (hcs hZ ⟨Nat.le_of_ble_eq_true rfl, Nat.le_of_ble_eq_true rfl⟩) dX11_block_258 (fun v G' hp => ?_)
                    obtain ⟨rfl, rfl⟩ := hp
                    show hX z 0 0 (T, K, L, R, A) [(11, .int (nI q)), (10, .int k), (9, .int g), (8, .int f0), (7, .int e), (6, .int d), (5, .int c), (4, .int b), (3, .int a), (0, .ref (A 63)), (1, .int (nI fr)), (2, .int (nI al))] 261 [.int (rot e 6), .int k]
                    refine x_iload C dX11_block_261 4 rfl ?_
                    refine x_bipush (v := nI 11) C dX11_block_263 (by decide +kernel) ?_
                    refine x_callS C (ok_turn e 11 (by decide)) ms_X11_turned ml_X11_263 rfl rfl (Nat.le_of_ble_eq_true rfl) (hrm (rm := { frames := 0, cells := 0, slots := 0, locals := 0 }) hZ ⟨Nat.le_of_ble_eq_true rfl, Nat.le_of_ble_eq_true rfl⟩) (hcs hZ ⟨Nat.le_of_ble_eq_true rfl, Nat.le_of_ble_eq_true rfl⟩) dX11_block_265 (fun v G' hp => ?_)
                    obtain ⟨rfl, rfl⟩ := hp
                    show hX z 0 0 (T, K, L, R, A) [(11, .int (nI q)), (10, .int k), (9, .int g), (8, .int f0), (7, .int e), (6, .int d), (5, .int c), (4, .int b), (3, .int a), (0, .ref (A 63)), (1, .int (nI fr)), (2, .int (nI al))] 268 [.int (rot e 11), .int (rot e 6), .int k]
                    refine x_ixor C dX11_block_268 ?_
                    refine x_iload C dX11_block_269 4 rfl ?_
                    refine x_bipush (v := nI 25) C dX11_block_271 (by decide +kernel) ?_
                    refine x_callS C (ok_turn e 25 (by decide)) ms_X11_turned ml_X11_263 rfl rfl (Nat.le_of_ble_eq_true rfl) (hrm (rm := { frames := 0, cells := 0, slots := 0, locals := 0 }) hZ ⟨Nat.le_of_ble_eq_true rfl, Nat.le_of_ble_eq_true rfl⟩) (hcs hZ ⟨Nat.le_of_ble_eq_true rfl, Nat.le_of_ble_eq_true rfl⟩) dX11_block_273 (fun v G' hp => ?_)
                    obtain ⟨rfl, rfl⟩ := hp
                    show hX z 0 0 (T, K, L, R, A) [(11, .int (nI q)), (10, .int k), (9, .int g), (8, .int f0), (7, .int e), (6, .int d), (5, .int c), (4, .int b), (3, .int a), (0, .ref (A 63)), (1, .int (nI fr)), (2, .int (nI al))] 276 [.int (rot e 25), .int ((rot e 6) ^^^ (rot e 11)), .int k]
                    refine x_ixor C dX11_block_276 ?_
                    refine x_iadd C dX11_block_277 ?_
                    refine x_iload C dX11_block_278 4 rfl ?_
                    refine x_iload C dX11_block_280 3 rfl ?_
                    refine x_iand C dX11_block_282 ?_
                    refine x_iload C dX11_block_283 4 rfl ?_
                    refine x_iconst (v := (-1)) C dX11_block_285 (by decide +kernel) ?_
                    refine x_ixor C dX11_block_286 ?_
                    refine x_iload C dX11_block_287 2 rfl ?_
                    refine x_iand C dX11_block_289 ?_
                    refine x_ixor C dX11_block_290 ?_
                    refine x_iadd C dX11_block_291 ?_
                    refine x_aload_n C dX11_block_292 9 rfl rfl ?_
                    refine x_getrN C fl_X11_94 mO.1 rfl (mO.2.2 5 _ rfl).1 dX11_block_293 ?_
                    refine x_iload C dX11_block_296 0 rfl ?_
                    refine x_ialdN C (mO.2.2 5 _ rfl).2.1 (by omega) (by omega) dX11_block_298 ?_
                    refine x_iadd C dX11_block_299 ?_
                    refine x_aload_n C dX11_block_300 9 rfl rfl ?_
                    refine x_getrN C fl_X11_16 mO.1 rfl (mO.2.2 3 _ rfl).1 dX11_block_301 ?_
                    refine x_iload C dX11_block_304 0 rfl ?_
                    refine x_ialdN C (mO.2.2 3 _ rfl).2.1 (by omega) (by omega) dX11_block_306 ?_
                    refine x_iadd C dX11_block_307 ?_
                    refine x_istore (lv' := [(12, .int ((((k + (((rot e 6) ^^^ (rot e 11)) ^^^ (rot e 25))) + ((e &&& f0) ^^^ ((e ^^^ (-1)) &&& g))) + (K 5 q)) + (K 3 q))), (11, .int (nI q)), (10, .int k), (9, .int g), (8, .int f0), (7, .int e), (6, .int d), (5, .int c), (4, .int b), (3, .int a), (0, .ref (A 63)), (1, .int (nI fr)), (2, .int (nI al))]) C dX11_block_308 (Nat.lt_of_lt_of_eq (by decide) hN.symm) rfl ?_
                    refine x_iload_n C dX11_block_310 9 rfl rfl ?_
                    refine x_iconst (v := nI 2) C dX11_block_311 (by decide +kernel) ?_
                    refine x_callS C (ok_turn a 2 (by decide)) ms_X11_turned ml_X11_263 rfl rfl (Nat.le_of_ble_eq_true rfl) (hrm (rm := { frames := 0, cells := 0, slots := 0, locals := 0 }) hZ ⟨Nat.le_of_ble_eq_true rfl, Nat.le_of_ble_eq_true rfl⟩) (hcs hZ ⟨Nat.le_of_ble_eq_true rfl, Nat.le_of_ble_eq_true rfl⟩) dX11_block_312 (fun v G' hp => ?_)
                    obtain ⟨rfl, rfl⟩ := hp
                    show hX z 0 0 (T, K, L, R, A) [(12, .int ((((k + (((rot e 6) ^^^ (rot e 11)) ^^^ (rot e 25))) + ((e &&& f0) ^^^ ((e ^^^ (-1)) &&& g))) + (K 5 q)) + (K 3 q))), (11, .int (nI q)), (10, .int k), (9, .int g), (8, .int f0), (7, .int e), (6, .int d), (5, .int c), (4, .int b), (3, .int a), (0, .ref (A 63)), (1, .int (nI fr)), (2, .int (nI al))] 315 [.int (rot a 2)]
                    refine x_iload_n C dX11_block_315 9 rfl rfl ?_
                    refine x_bipush (v := nI 13) C dX11_block_316 (by decide +kernel) ?_
                    refine x_callS C (ok_turn a 13 (by decide)) ms_X11_turned ml_X11_263 rfl rfl (Nat.le_of_ble_eq_true rfl) (hrm (rm := { frames := 0, cells := 0, slots := 0, locals := 0 }) hZ ⟨Nat.le_of_ble_eq_true rfl, Nat.le_of_ble_eq_true rfl⟩) (hcs hZ ⟨Nat.le_of_ble_eq_true rfl, Nat.le_of_ble_eq_true rfl⟩) dX11_block_318 (fun v G' hp => ?_)
                    obtain ⟨rfl, rfl⟩ := hp
                    show hX z 0 0 (T, K, L, R, A) [(12, .int ((((k + (((rot e 6) ^^^ (rot e 11)) ^^^ (rot e 25))) + ((e &&& f0) ^^^ ((e ^^^ (-1)) &&& g))) + (K 5 q)) + (K 3 q))), (11, .int (nI q)), (10, .int k), (9, .int g), (8, .int f0), (7, .int e), (6, .int d), (5, .int c), (4, .int b), (3, .int a), (0, .ref (A 63)), (1, .int (nI fr)), (2, .int (nI al))] 321 [.int (rot a 13), .int (rot a 2)]
                    refine x_ixor C dX11_block_321 ?_
                    refine x_iload_n C dX11_block_322 9 rfl rfl ?_
                    refine x_bipush (v := nI 22) C dX11_block_323 (by decide +kernel) ?_
                    refine x_callS C (ok_turn a 22 (by decide)) ms_X11_turned ml_X11_263 rfl rfl (Nat.le_of_ble_eq_true rfl) (hrm (rm := { frames := 0, cells := 0, slots := 0, locals := 0 }) hZ ⟨Nat.le_of_ble_eq_true rfl, Nat.le_of_ble_eq_true rfl⟩) (hcs hZ ⟨Nat.le_of_ble_eq_true rfl, Nat.le_of_ble_eq_true rfl⟩) dX11_block_325 (fun v G' hp => ?_)
                    obtain ⟨rfl, rfl⟩ := hp
                    show hX z 0 0 (T, K, L, R, A) [(12, .int ((((k + (((rot e 6) ^^^ (rot e 11)) ^^^ (rot e 25))) + ((e &&& f0) ^^^ ((e ^^^ (-1)) &&& g))) + (K 5 q)) + (K 3 q))), (11, .int (nI q)), (10, .int k), (9, .int g), (8, .int f0), (7, .int e), (6, .int d), (5, .int c), (4, .int b), (3, .int a), (0, .ref (A 63)), (1, .int (nI fr)), (2, .int (nI al))] 328 [.int (rot a 22), .int ((rot a 2) ^^^ (rot a 13))]
                    refine x_ixor C dX11_block_328 ?_
                    refine x_iload_n C dX11_block_329 9 rfl rfl ?_
                    refine x_iload C dX11_block_330 8 rfl ?_
                    refine x_iand C dX11_block_332 ?_
                    refine x_iload_n C dX11_block_333 9 rfl rfl ?_
                    refine x_iload C dX11_block_334 7 rfl ?_
                    refine x_iand C dX11_block_336 ?_
                    refine x_ixor C dX11_block_337 ?_
                    refine x_iload C dX11_block_338 8 rfl ?_
                    refine x_iload C dX11_block_340 7 rfl ?_
                    refine x_iand C dX11_block_342 ?_
                    refine x_ixor C dX11_block_343 ?_
                    refine x_iadd C dX11_block_344 ?_
                    refine x_istore (lv' := [(13, .int ((((rot a 2) ^^^ (rot a 13)) ^^^ (rot a 22)) + (((a &&& b) ^^^ (a &&& c)) ^^^ (b &&& c)))), (12, .int ((((k + (((rot e 6) ^^^ (rot e 11)) ^^^ (rot e 25))) + ((e &&& f0) ^^^ ((e ^^^ (-1)) &&& g))) + (K 5 q)) + (K 3 q))), (11, .int (nI q)), (10, .int k), (9, .int g), (8, .int f0), (7, .int e), (6, .int d), (5, .int c), (4, .int b), (3, .int a), (0, .ref (A 63)), (1, .int (nI fr)), (2, .int (nI al))]) C dX11_block_345 (Nat.lt_of_lt_of_eq (by decide) hN.symm) rfl ?_
                    refine x_iload C dX11_block_347 4 rfl ?_
                    refine x_istore (lv' := [(10, .int g), (13, .int ((((rot a 2) ^^^ (rot a 13)) ^^^ (rot a 22)) + (((a &&& b) ^^^ (a &&& c)) ^^^ (b &&& c)))), (12, .int ((((k + (((rot e 6) ^^^ (rot e 11)) ^^^ (rot e 25))) + ((e &&& f0) ^^^ ((e ^^^ (-1)) &&& g))) + (K 5 q)) + (K 3 q))), (11, .int (nI q)), (9, .int g), (8, .int f0), (7, .int e), (6, .int d), (5, .int c), (4, .int b), (3, .int a), (0, .ref (A 63)), (1, .int (nI fr)), (2, .int (nI al))]) C dX11_block_349 (Nat.lt_of_lt_of_eq (by decide) hN.symm) rfl ?_
                    refine x_iload C dX11_block_351 5 rfl ?_
                    refine x_istore (lv' := [(9, .int f0), (10, .int g), (13, .int ((((rot a 2) ^^^ (rot a 13)) ^^^ (rot a 22)) + (((a &&& b) ^^^ (a &&& c)) ^^^ (b &&& c)))), (12, .int ((((k + (((rot e 6) ^^^ (rot e 11)) ^^^ (rot e 25))) + ((e &&& f0) ^^^ ((e ^^^ (-1)) &&& g))) + (K 5 q)) + (K 3 q))), (11, .int (nI q)), (8, .int f0), (7, .int e), (6, .int d), (5, .int c), (4, .int b), (3, .int a), (0, .ref (A 63)), (1, .int (nI fr)), (2, .int (nI al))]) C dX11_block_353 (Nat.lt_of_lt_of_eq (by decide) hN.symm) rfl ?_
                    refine x_iload C dX11_block_355 6 rfl ?_
                    refine x_istore (lv' := [(8, .int e), (9, .int f0), (10, .int g), (13, .int ((((rot a 2) ^^^ (rot a 13)) ^^^ (rot a 22)) + (((a &&& b) ^^^ (a &&& c)) ^^^ (b &&& c)))), (12, .int ((((k + (((rot e 6) ^^^ (rot e 11)) ^^^ (rot e 25))) + ((e &&& f0) ^^^ ((e ^^^ (-1)) &&& g))) + (K 5 q)) + (K 3 q))), (11, .int (nI q)), (7, .int e), (6, .int d), (5, .int c), (4, .int b), (3, .int a), (0, .ref (A 63)), (1, .int (nI fr)), (2, .int (nI al))]) C dX11_block_357 (Nat.lt_of_lt_of_eq (by decide) hN.symm) rfl ?_
                    refine x_iload C dX11_block_359 7 rfl ?_
                    refine x_iload C dX11_block_361 4 rfl ?_
                    refine x_iadd C dX11_block_363 ?_
                    refine x_istore (lv' := [(7, .int (d + ((((k + (((rot e 6) ^^^ (rot e 11)) ^^^ (rot e 25))) + ((e &&& f0) ^^^ ((e ^^^ (-1)) &&& g))) + (K 5 q)) + (K 3 q)))), (8, .int e), (9, .int f0), (10, .int g), (13, .int ((((rot a 2) ^^^ (rot a 13)) ^^^ (rot a 22)) + (((a &&& b) ^^^ (a &&& c)) ^^^ (b &&& c)))), (12, .int ((((k + (((rot e 6) ^^^ (rot e 11)) ^^^ (rot e 25))) + ((e &&& f0) ^^^ ((e ^^^ (-1)) &&& g))) + (K 5 q)) + (K 3 q))), (11, .int (nI q)), (6, .int d), (5, .int c), (4, .int b), (3, .int a), (0, .ref (A 63)), (1, .int (nI fr)), (2, .int (nI al))]) C dX11_block_364 (Nat.lt_of_lt_of_eq (by decide) hN.symm) rfl ?_
                    refine x_iload C dX11_block_366 8 rfl ?_
                    refine x_istore (lv' := [(6, .int c), (7, .int (d + ((((k + (((rot e 6) ^^^ (rot e 11)) ^^^ (rot e 25))) + ((e &&& f0) ^^^ ((e ^^^ (-1)) &&& g))) + (K 5 q)) + (K 3 q)))), (8, .int e), (9, .int f0), (10, .int g), (13, .int ((((rot a 2) ^^^ (rot a 13)) ^^^ (rot a 22)) + (((a &&& b) ^^^ (a &&& c)) ^^^ (b &&& c)))), (12, .int ((((k + (((rot e 6) ^^^ (rot e 11)) ^^^ (rot e 25))) + ((e &&& f0) ^^^ ((e ^^^ (-1)) &&& g))) + (K 5 q)) + (K 3 q))), (11, .int (nI q)), (5, .int c), (4, .int b), (3, .int a), (0, .ref (A 63)), (1, .int (nI fr)), (2, .int (nI al))]) C dX11_block_368 (Nat.lt_of_lt_of_eq (by decide) hN.symm) rfl ?_
                    refine x_iload C dX11_block_370 9 rfl ?_
                    refine x_istore (lv' := [(5, .int b), (6, .int c), (7, .int (d + ((((k + (((rot e 6) ^^^ (rot e 11)) ^^^ (rot e 25))) + ((e &&& f0) ^^^ ((e ^^^ (-1)) &&& g))) + (K 5 q)) + (K 3 q)))), (8, .int e), (9, .int f0), (10, .int g), (13, .int ((((rot a 2) ^^^ (rot a 13)) ^^^ (rot a 22)) + (((a &&& b) ^^^ (a &&& c)) ^^^ (b &&& c)))), (12, .int ((((k + (((rot e 6) ^^^ (rot e 11)) ^^^ (rot e 25))) + ((e &&& f0) ^^^ ((e ^^^ (-1)) &&& g))) + (K 5 q)) + (K 3 q))), (11, .int (nI q)), (4, .int b), (3, .int a), (0, .ref (A 63)), (1, .int (nI fr)), (2, .int (nI al))]) C dX11_block_372 (Nat.lt_of_lt_of_eq (by decide) hN.symm) rfl ?_
                    refine x_iload_n C dX11_block_374 10 rfl rfl ?_
                    refine x_istore (lv' := [(4, .int a), (5, .int b), (6, .int c), (7, .int (d + ((((k + (((rot e 6) ^^^ (rot e 11)) ^^^ (rot e 25))) + ((e &&& f0) ^^^ ((e ^^^ (-1)) &&& g))) + (K 5 q)) + (K 3 q)))), (8, .int e), (9, .int f0), (10, .int g), (13, .int ((((rot a 2) ^^^ (rot a 13)) ^^^ (rot a 22)) + (((a &&& b) ^^^ (a &&& c)) ^^^ (b &&& c)))), (12, .int ((((k + (((rot e 6) ^^^ (rot e 11)) ^^^ (rot e 25))) + ((e &&& f0) ^^^ ((e ^^^ (-1)) &&& g))) + (K 5 q)) + (K 3 q))), (11, .int (nI q)), (3, .int a), (0, .ref (A 63)), (1, .int (nI fr)), (2, .int (nI al))]) C dX11_block_375 (Nat.lt_of_lt_of_eq (by decide) hN.symm) rfl ?_
                    refine x_iload C dX11_block_377 8 rfl ?_
                    refine x_iload C dX11_block_379 7 rfl ?_
                    refine x_iadd C dX11_block_381 ?_
                    refine x_istore_n (lv' := [(3, .int (((((k + (((rot e 6) ^^^ (rot e 11)) ^^^ (rot e 25))) + ((e &&& f0) ^^^ ((e ^^^ (-1)) &&& g))) + (K 5 q)) + (K 3 q)) + ((((rot a 2) ^^^ (rot a 13)) ^^^ (rot a 22)) + (((a &&& b) ^^^ (a &&& c)) ^^^ (b &&& c))))), (4, .int a), (5, .int b), (6, .int c), (7, .int (d + ((((k + (((rot e 6) ^^^ (rot e 11)) ^^^ (rot e 25))) + ((e &&& f0) ^^^ ((e ^^^ (-1)) &&& g))) + (K 5 q)) + (K 3 q)))), (8, .int e), (9, .int f0), (10, .int g), (13, .int ((((rot a 2) ^^^ (rot a 13)) ^^^ (rot a 22)) + (((a &&& b) ^^^ (a &&& c)) ^^^ (b &&& c)))), (12, .int ((((k + (((rot e 6) ^^^ (rot e 11)) ^^^ (rot e 25))) + ((e &&& f0) ^^^ ((e ^^^ (-1)) &&& g))) + (K 5 q)) + (K 3 q))), (11, .int (nI q)), (0, .ref (A 63)), (1, .int (nI fr)), (2, .int (nI al))]) C dX11_block_382 rfl (Nat.lt_of_lt_of_eq (by decide) hN.symm) rfl ?_
                    refine x_iinc (v := nI (q + 1)) (lv' := [(11, .int (nI (q + 1))), (3, .int (((((k + (((rot e 6) ^^^ (rot e 11)) ^^^ (rot e 25))) + ((e &&& f0) ^^^ ((e ^^^ (-1)) &&& g))) + (K 5 q)) + (K 3 q)) + ((((rot a 2) ^^^ (rot a 13)) ^^^ (rot a 22)) + (((a &&& b) ^^^ (a &&& c)) ^^^ (b &&& c))))), (4, .int a), (5, .int b), (6, .int c), (7, .int (d + ((((k + (((rot e 6) ^^^ (rot e 11)) ^^^ (rot e 25))) + ((e &&& f0) ^^^ ((e ^^^ (-1)) &&& g))) + (K 5 q)) + (K 3 q)))), (8, .int e), (9, .int f0), (10, .int g), (13, .int ((((rot a 2) ^^^ (rot a 13)) ^^^ (rot a 22)) + (((a &&& b) ^^^ (a &&& c)) ^^^ (b &&& c)))), (12, .int ((((k + (((rot e 6) ^^^ (rot e 11)) ^^^ (rot e 25))) + ((e &&& f0) ^^^ ((e ^^^ (-1)) &&& g))) + (K 5 q)) + (K 3 q))), (0, .ref (A 63)), (1, .int (nI fr)), (2, .int (nI al))]) C dX11_block_383 10 rfl (nI_inc 1) (Nat.lt_of_lt_of_eq (by decide) hN.symm) rfl ?_
                    refine x_goto (tgt := 245) C dX11_block_386 (by decide) ?_
                    refine x_sub (lv' := _) [0, 8, 7, 6, 5, 4, 3, 2, 1, 11, 12, 13] rfl ?_
                    exact ih245 (q + 1) (((((k + (((rot e 6) ^^^ (rot e 11)) ^^^ (rot e 25))) + ((e &&& f0) ^^^ ((e ^^^ (-1)) &&& g))) + (K 5 q)) + (K 3 q)) + ((((rot a 2) ^^^ (rot a 13)) ^^^ (rot a 22)) + (((a &&& b) ^^^ (a &&& c)) ^^^ (b &&& c)))) a b c (d + ((((k + (((rot e 6) ^^^ (rot e 11)) ^^^ (rot e 25))) + ((e &&& f0) ^^^ ((e ^^^ (-1)) &&& g))) + (K 5 q)) + (K 3 q))) e f0 g (by omega) (by omega) (by rw [sR, hr, ← hK q c249, show I 5 q = K 5 q by rw [hJ2, up_ne _ _ (by decide)]]; rfl)
              refine x_sub (lv' := _) [0, 1, 2, 3, 4, 5, 6, 7, 8, 9, 10, 11] rfl ?_
              exact L245 _ 0 (K 2 0) (K 2 1) (K 2 2) (K 2 3) (K 2 4) (K 2 5) (K 2 6) (K 2 7) (Nat.lt_succ_self _) (by omega) rfl
            · refine x_aload_n C dX11_block_82 1 rfl rfl ?_
              refine x_getrN C fl_X11_16 mO.1 rfl (mO.2.2 3 _ rfl).1 dX11_block_83 ?_
              refine x_iload_n C dX11_block_86 0 rfl rfl ?_
              refine x_bipush (v := nI 15) C dX11_block_87 (by decide +kernel) ?_
              refine x_isubN C (by omega) dX11_block_89 ?_
              refine x_ialdN C (mO.2.2 3 _ rfl).2.1 (by omega) (by omega) dX11_block_90 ?_
              refine x_istore (lv' := [(4, .int (K 3 (i - 15))), (3, .int (nI i)), (0, .ref (A 63)), (1, .int (nI fr)), (2, .int (nI al))]) C dX11_block_91 (Nat.lt_of_lt_of_eq (by decide) hN.symm) rfl ?_
              refine x_aload_n C dX11_block_93 2 rfl rfl ?_
              refine x_getrN C fl_X11_16 mO.1 rfl (mO.2.2 3 _ rfl).1 dX11_block_94 ?_
              refine x_iload_n C dX11_block_97 1 rfl rfl ?_
              refine x_iconst (v := nI 2) C dX11_block_98 (by decide +kernel) ?_
              refine x_isubN C (by omega) dX11_block_99 ?_
              refine x_ialdN C (mO.2.2 3 _ rfl).2.1 (by omega) (by omega) dX11_block_100 ?_
              refine x_istore (lv' := [(5, .int (K 3 (i - 2))), (4, .int (K 3 (i - 15))), (3, .int (nI i)), (0, .ref (A 63)), (1, .int (nI fr)), (2, .int (nI al))]) C dX11_block_101 (Nat.lt_of_lt_of_eq (by decide) hN.symm) rfl ?_
              refine x_aload_n C dX11_block_103 3 rfl rfl ?_
              refine x_getrN C fl_X11_16 mO.1 rfl (mO.2.2 3 _ rfl).1 dX11_block_104 ?_
              refine x_iload_n C dX11_block_107 2 rfl rfl ?_
              refine x_aload_n C dX11_block_108 3 rfl rfl ?_
              refine x_getrN C fl_X11_16 mO.1 rfl (mO.2.2 3 _ rfl).1 dX11_block_109 ?_
              refine x_iload_n C dX11_block_112 2 rfl rfl ?_
              refine x_bipush (v := nI 16) C dX11_block_113 (by decide +kernel) ?_
              refine x_isubN C (by omega) dX11_block_115 ?_
              refine x_ialdN C (mO.2.2 3 _ rfl).2.1 (by omega) (by omega) dX11_block_116 ?_
              refine x_iload C dX11_block_117 1 rfl ?_
              refine x_bipush (v := nI 7) C dX11_block_119 (by decide +kernel) ?_
              refine x_callS C (ok_turn (K 3 (i - 15)) 7 (by decide)) ms_X11_turned ml_X11_263 rfl rfl (Nat.le_of_ble_eq_true rfl) (hrm (rm := { frames := 0, cells := 0, slots := 0, locals := 0 }) hZ ⟨Nat.le_of_ble_eq_true rfl, Nat.le_of_ble_eq_true rfl⟩) (hcs hZ ⟨Nat.le_of_ble_eq_true rfl, Nat.le_of_ble_eq_true rfl⟩) dX11_block_121 (fun v G' hp => ?_)
              obtain ⟨rfl, rfl⟩ := hp
              show hX z 0 0 (T, K, L, R, A) [(5, .int (K 3 (i - 2))), (4, .int (K 3 (i - 15))), (3, .int (nI i)), (0, .ref (A 63)), (1, .int (nI fr)), (2, .int (nI al))] 124 [.int (rot (K 3 (i - 15)) 7), .int (K 3 (i - 16)), .int (nI i), .ref (A 3)]
              refine x_iload C dX11_block_124 1 rfl ?_
              refine x_bipush (v := nI 18) C dX11_block_126 (by decide +kernel) ?_
              refine x_callS C (ok_turn (K 3 (i - 15)) 18 (by decide)) ms_X11_turned ml_X11_263 rfl rfl (Nat.le_of_ble_eq_true rfl) (hrm (rm := { frames := 0, cells := 0, slots := 0, locals := 0 }) hZ ⟨Nat.le_of_ble_eq_true rfl, Nat.le_of_ble_eq_true rfl⟩) (hcs hZ ⟨Nat.le_of_ble_eq_true rfl, Nat.le_of_ble_eq_true rfl⟩) dX11_block_128 (fun v G' hp => ?_)
              obtain ⟨rfl, rfl⟩ := hp
              show hX z 0 0 (T, K, L, R, A) [(5, .int (K 3 (i - 2))), (4, .int (K 3 (i - 15))), (3, .int (nI i)), (0, .ref (A 63)), (1, .int (nI fr)), (2, .int (nI al))] 131 [.int (rot (K 3 (i - 15)) 18), .int (rot (K 3 (i - 15)) 7), .int (K 3 (i - 16)), .int (nI i), .ref (A 3)]
              refine x_ixor C dX11_block_131 ?_
              refine x_iload C dX11_block_132 1 rfl ?_
              refine x_iconst (v := nI 3) C dX11_block_134 (by decide +kernel) ?_
              refine x_iushr C dX11_block_135 ?_
              refine x_ixor C dX11_block_136 ?_
              refine x_iadd C dX11_block_137 ?_
              refine x_aload_n C dX11_block_138 3 rfl rfl ?_
              refine x_getrN C fl_X11_16 mO.1 rfl (mO.2.2 3 _ rfl).1 dX11_block_139 ?_
              refine x_iload_n C dX11_block_142 2 rfl rfl ?_
              refine x_bipush (v := nI 7) C dX11_block_143 (by decide +kernel) ?_
              refine x_isubN C (by omega) dX11_block_145 ?_
              refine x_ialdN C (mO.2.2 3 _ rfl).2.1 (by omega) (by omega) dX11_block_146 ?_
              refine x_iadd C dX11_block_147 ?_
              refine x_iload C dX11_block_148 0 rfl ?_
              refine x_bipush (v := nI 17) C dX11_block_150 (by decide +kernel) ?_
              refine x_callS C (ok_turn (K 3 (i - 2)) 17 (by decide)) ms_X11_turned ml_X11_263 rfl rfl (Nat.le_of_ble_eq_true rfl) (hrm (rm := { frames := 0, cells := 0, slots := 0, locals := 0 }) hZ ⟨Nat.le_of_ble_eq_true rfl, Nat.le_of_ble_eq_true rfl⟩) (hcs hZ ⟨Nat.le_of_ble_eq_true rfl, Nat.le_of_ble_eq_true rfl⟩) dX11_block_152 (fun v G' hp => ?_)
              obtain ⟨rfl, rfl⟩ := hp
              show hX z 0 0 (T, K, L, R, A) [(5, .int (K 3 (i - 2))), (4, .int (K 3 (i - 15))), (3, .int (nI i)), (0, .ref (A 63)), (1, .int (nI fr)), (2, .int (nI al))] 155 [.int (rot (K 3 (i - 2)) 17), .int (((K 3 (i - 16)) + (((rot (K 3 (i - 15)) 7) ^^^ (rot (K 3 (i - 15)) 18)) ^^^ (iusr (K 3 (i - 15)) (nI 3)))) + (K 3 (i - 7))), .int (nI i), .ref (A 3)]
              refine x_iload C dX11_block_155 0 rfl ?_
              refine x_bipush (v := nI 19) C dX11_block_157 (by decide +kernel) ?_
              refine x_callS C (ok_turn (K 3 (i - 2)) 19 (by decide)) ms_X11_turned ml_X11_263 rfl rfl (Nat.le_of_ble_eq_true rfl) (hrm (rm := { frames := 0, cells := 0, slots := 0, locals := 0 }) hZ ⟨Nat.le_of_ble_eq_true rfl, Nat.le_of_ble_eq_true rfl⟩) (hcs hZ ⟨Nat.le_of_ble_eq_true rfl, Nat.le_of_ble_eq_true rfl⟩) dX11_block_159 (fun v G' hp => ?_)
              obtain ⟨rfl, rfl⟩ := hp
              show hX z 0 0 (T, K, L, R, A) [(5, .int (K 3 (i - 2))), (4, .int (K 3 (i - 15))), (3, .int (nI i)), (0, .ref (A 63)), (1, .int (nI fr)), (2, .int (nI al))] 162 [.int (rot (K 3 (i - 2)) 19), .int (rot (K 3 (i - 2)) 17), .int (((K 3 (i - 16)) + (((rot (K 3 (i - 15)) 7) ^^^ (rot (K 3 (i - 15)) 18)) ^^^ (iusr (K 3 (i - 15)) (nI 3)))) + (K 3 (i - 7))), .int (nI i), .ref (A 3)]
              refine x_ixor C dX11_block_162 ?_
              refine x_iload C dX11_block_163 0 rfl ?_
              refine x_bipush (v := nI 10) C dX11_block_165 (by decide +kernel) ?_
              refine x_iushr C dX11_block_167 ?_
              refine x_ixor C dX11_block_168 ?_
              refine x_iadd C dX11_block_169 ?_
              refine x_iastN C (mO.2.2 3 _ rfl).2.1 (mO.2.2 3 _ rfl).2.2 (by omega) (by omega) dX11_block_170 (fun I9 eI9 => ?_)
              refine x_iinc (v := nI (i + 1)) (lv' := [(3, .int (nI (i + 1))), (5, .int (K 3 (i - 2))), (4, .int (K 3 (i - 15))), (0, .ref (A 63)), (1, .int (nI fr)), (2, .int (nI al))]) C dX11_block_171 2 rfl (nI_inc 1) (Nat.lt_of_lt_of_eq (by decide) hN.symm) rfl ?_
              refine x_goto (tgt := 76) C dX11_block_174 (by decide) ?_
              refine x_sub (lv' := _) [0, 3, 4, 5] rfl ?_
              exact ih76 (i + 1) I9 (by omega) (by omega) (by omega) (by rw [eI9, hJ2]; simp only [up_eq, up_up]; exact congrArg (va_up I 3) (sW_s _ hi))
        refine x_sub (lv' := _) [0, 1, 2, 3] rfl ?_
        exact L76 _ 16 J (Nat.lt_succ_self _) (by omega) (by omega) (by rw [hJ, show t = 16 by omega]; rfl)
      · refine x_iload_n C dX11_block_8 2 rfl rfl ?_
        refine x_iconst (v := nI 4) C dX11_block_9 (by decide +kernel) ?_
        refine x_iload_n C dX11_block_10 0 rfl rfl ?_
        refine x_imulN C dX11_block_11 ?_
        refine x_iaddN C dX11_block_12 ?_
        refine x_istore (lv' := [(4, .int (nI (fr + (4 * t)))), (3, .int (nI t)), (0, .ref (A 63)), (1, .int (nI fr)), (2, .int (nI al))]) C dX11_block_13 (Nat.lt_of_lt_of_eq (by decide) hN.symm) rfl ?_
        refine x_aload_n C dX11_block_15 2 rfl rfl ?_
        refine x_getrN C fl_X11_16 mO.1 rfl (mO.2.2 3 _ rfl).1 dX11_block_16 ?_
        refine x_iload_n C dX11_block_19 1 rfl rfl ?_
        refine x_aload_n C dX11_block_20 2 rfl rfl ?_
        refine x_iload C dX11_block_21 0 rfl ?_
        refine x_iload_n C dX11_block_23 4 rfl rfl ?_
        refine x_callV C (ok_X11_padded mO n (fr + (4 * t)) al (by rw [hJ, up_ne _ _ (by decide)]; exact hn) hn4 hal (by omega)) mv_X11_padded ml_X11_259 mO.1 rfl rfl rfl (Nat.le_of_ble_eq_true rfl) (hrm (rm := { frames := 0, cells := 0, slots := 0, locals := 0 }) hZ ⟨Nat.le_of_ble_eq_true rfl, Nat.le_of_ble_eq_true rfl⟩) (hcs hZ ⟨Nat.le_of_ble_eq_true rfl, Nat.le_of_ble_eq_true rfl⟩) dX11_block_24 (fun v G' hp => ?_)
        obtain ⟨rfl, rfl⟩ := hp
        show hX z 0 0 (T, J, L, R, A) [(4, .int (nI (fr + (4 * t)))), (3, .int (nI t)), (0, .ref (A 63)), (1, .int (nI fr)), (2, .int (nI al))] 27 [.int (padF (J 0) n (fr + (4 * t))), .int (nI t), .ref (A 3)]
        refine x_bipush (v := nI 24) C dX11_block_27 (by decide +kernel) ?_
        refine x_ishl C dX11_block_29 ?_
        refine x_aload_n C dX11_block_30 2 rfl rfl ?_
        refine x_iload C dX11_block_31 0 rfl ?_
        refine x_iconst (v := nI 1) C dX11_block_33 (by decide +kernel) ?_
        refine x_iaddN C dX11_block_34 ?_
        refine x_iload_n C dX11_block_35 4 rfl rfl ?_
        refine x_callV C (ok_X11_padded mO n (fr + (4 * t) + 1) al (by rw [hJ, up_ne _ _ (by decide)]; exact hn) hn4 hal (by omega)) mv_X11_padded ml_X11_259 mO.1 rfl rfl rfl (Nat.le_of_ble_eq_true rfl) (hrm (rm := { frames := 0, cells := 0, slots := 0, locals := 0 }) hZ ⟨Nat.le_of_ble_eq_true rfl, Nat.le_of_ble_eq_true rfl⟩) (hcs hZ ⟨Nat.le_of_ble_eq_true rfl, Nat.le_of_ble_eq_true rfl⟩) dX11_block_36 (fun v G' hp => ?_)
        obtain ⟨rfl, rfl⟩ := hp
        show hX z 0 0 (T, J, L, R, A) [(4, .int (nI (fr + (4 * t)))), (3, .int (nI t)), (0, .ref (A 63)), (1, .int (nI fr)), (2, .int (nI al))] 39 [.int (padF (J 0) n (fr + (4 * t) + 1)), .int (isl (padF (J 0) n (fr + (4 * t))) (nI 24)), .int (nI t), .ref (A 3)]
        refine x_bipush (v := nI 16) C dX11_block_39 (by decide +kernel) ?_
        refine x_ishl C dX11_block_41 ?_
        refine x_ior C dX11_block_42 ?_
        refine x_aload_n C dX11_block_43 2 rfl rfl ?_
        refine x_iload C dX11_block_44 0 rfl ?_
        refine x_iconst (v := nI 2) C dX11_block_46 (by decide +kernel) ?_
        refine x_iaddN C dX11_block_47 ?_
        refine x_iload_n C dX11_block_48 4 rfl rfl ?_
        refine x_callV C (ok_X11_padded mO n (fr + (4 * t) + 2) al (by rw [hJ, up_ne _ _ (by decide)]; exact hn) hn4 hal (by omega)) mv_X11_padded ml_X11_259 mO.1 rfl rfl rfl (Nat.le_of_ble_eq_true rfl) (hrm (rm := { frames := 0, cells := 0, slots := 0, locals := 0 }) hZ ⟨Nat.le_of_ble_eq_true rfl, Nat.le_of_ble_eq_true rfl⟩) (hcs hZ ⟨Nat.le_of_ble_eq_true rfl, Nat.le_of_ble_eq_true rfl⟩) dX11_block_49 (fun v G' hp => ?_)
        obtain ⟨rfl, rfl⟩ := hp
        show hX z 0 0 (T, J, L, R, A) [(4, .int (nI (fr + (4 * t)))), (3, .int (nI t)), (0, .ref (A 63)), (1, .int (nI fr)), (2, .int (nI al))] 52 [.int (padF (J 0) n (fr + (4 * t) + 2)), .int ((isl (padF (J 0) n (fr + (4 * t))) (nI 24)) ||| (isl (padF (J 0) n (fr + (4 * t) + 1)) (nI 16))), .int (nI t), .ref (A 3)]
        refine x_bipush (v := nI 8) C dX11_block_52 (by decide +kernel) ?_
        refine x_ishl C dX11_block_54 ?_
        refine x_ior C dX11_block_55 ?_
        refine x_aload_n C dX11_block_56 2 rfl rfl ?_
        refine x_iload C dX11_block_57 0 rfl ?_
        refine x_iconst (v := nI 3) C dX11_block_59 (by decide +kernel) ?_
        refine x_iaddN C dX11_block_60 ?_
        refine x_iload_n C dX11_block_61 4 rfl rfl ?_
        refine x_callV C (ok_X11_padded mO n (fr + (4 * t) + 3) al (by rw [hJ, up_ne _ _ (by decide)]; exact hn) hn4 hal (by omega)) mv_X11_padded ml_X11_259 mO.1 rfl rfl rfl (Nat.le_of_ble_eq_true rfl) (hrm (rm := { frames := 0, cells := 0, slots := 0, locals := 0 }) hZ ⟨Nat.le_of_ble_eq_true rfl, Nat.le_of_ble_eq_true rfl⟩) (hcs hZ ⟨Nat.le_of_ble_eq_true rfl, Nat.le_of_ble_eq_true rfl⟩) dX11_block_62 (fun v G' hp => ?_)
        obtain ⟨rfl, rfl⟩ := hp
        show hX z 0 0 (T, J, L, R, A) [(4, .int (nI (fr + (4 * t)))), (3, .int (nI t)), (0, .ref (A 63)), (1, .int (nI fr)), (2, .int (nI al))] 65 [.int (padF (J 0) n (fr + (4 * t) + 3)), .int (((isl (padF (J 0) n (fr + (4 * t))) (nI 24)) ||| (isl (padF (J 0) n (fr + (4 * t) + 1)) (nI 16))) ||| (isl (padF (J 0) n (fr + (4 * t) + 2)) (nI 8))), .int (nI t), .ref (A 3)]
        refine x_ior C dX11_block_65 ?_
        refine x_iastN C (mO.2.2 3 _ rfl).2.1 (mO.2.2 3 _ rfl).2.2 (by omega) (by omega) dX11_block_66 (fun I10 eI10 => ?_)
        refine x_iinc (v := nI (t + 1)) (lv' := [(3, .int (nI (t + 1))), (4, .int (nI (fr + (4 * t)))), (0, .ref (A 63)), (1, .int (nI fr)), (2, .int (nI al))]) C dX11_block_67 1 rfl (nI_inc 1) (Nat.lt_of_lt_of_eq (by decide) hN.symm) rfl ?_
        refine x_goto (tgt := 2) C dX11_block_70 (by decide) ?_
        refine x_sub (lv' := _) [0, 2, 3, 4] rfl ?_
        exact ih2 (t + 1) I10 (by omega) (by omega) (by rw [eI10, hJ]; simp only [up_eq, up_up]; exact congrArg (va_up I 3) (by rw [upd_up]; exact fill_s (fun x => wrd (padF (I 0) n) (fr + 4 * x)) _ rfl))
  refine x_sub (lv' := _) [0, 1, 2, 3] rfl ?_
  exact L2 _ 0 I (Nat.lt_succ_self _) (by omega) (fill_0 I 3 _)

