theorem fill_s {α : Type} (f g : Nat → α) {j : Nat} {x : α} (hx : x = f j) : va_up (fun t => if t < j then f t else g t) j x = fun t => if t < j + 1 then f t else g t := by
  funext t
  unfold va_up
  dsimp only
  by_cases e : t = j
  · rw [if_pos e, if_pos (by omega), e, hx]
  · rw [if_neg e]; by_cases e2 : t < j
    · rw [if_pos e2, if_pos (by omega)]
    · rw [if_neg e2, if_neg (by omega)]
theorem upd_up : @upd = @va_up Int32 := by funext f k x j; rfl
theorem pad_0 (m : Nat → Int32) {n i : Nat} (h : n < i) (h2 : i < pall n - 4) : padF m n i = nI 0 := by
  unfold padF; rw [if_neg (by omega), if_neg (by omega), if_pos h2]
theorem pad_n (m : Nat → Int32) (n : Nat) : padF m n n = nI 128 := by
  unfold padF; rw [if_neg (by omega), if_pos rfl]
theorem pall_ge (n : Nat) : n + 9 ≤ pall n := by unfold pall; omega
theorem pad_l (m : Nat → Int32) (n : Nat) {q : Nat} (h : q < 4) : padF m n (pall n - 4 + q) = iusr (nI (8 * n)) (nI (24 - 8 * q)) &&& nI 255 := by
  have := pall_ge n
  unfold padF; rw [if_neg (by omega), if_neg (by omega), if_neg (by omega), show 8 * (pall n - 1 - (pall n - 4 + q)) = 24 - 8 * q by omega]
theorem pad_z (n : Nat) : n + 1 + ((120 - (n + 1) % 64) % 64 + 4) = pall n - 4 := by unfold pall; omega
theorem pall64 (n : Nat) : pall n % 64 = 0 := by unfold pall; omega
set_option maxHeartbeats 4000000 in
set_option maxRecDepth 100000 in
theorem ok_X5_finish {l : Launch} {a0 : Nat} {D : va_G} {sa : Nat → Nat} {T : Nat → Option hKd} {I : Nat → Nat → Int32} {L : Nat → Nat → Int64} {R : Nat → Nat → Option Nat} {A : Nat → Nat} (h s w : Nat) (hTh : T h = some (.inr 5)) (hRs : R h 0 = some s) (hRw : R h 1 = some w) (hTs : T s = some (.inl (.int, 8))) (hTw : T w = some (.inl (.int, 64))) (hh0 : a0 ≤ A h) (hs0 : a0 ≤ A s) (hw0 : a0 ≤ A w) (hhs : h ≠ s) (hhw : h ≠ w) (hsw : s ≠ w) (hsa : ∀ k, k < 5 → sa k = A (90 + k)) (hT92 : T 92 = some (.inl (.int, 64))) (h92 : ∀ t, t < 64 → I 92 t = kSha t) (n92 : 92 ≠ s ∧ 92 ≠ w ∧ 92 ≠ h) (m : Nat → Int32) (n u nu : Nat) (hA : shaAt I h s w m n) (hn : n < 2 ^ 20) (hTu : T u = some (.inl (.int, nu))) (hnu : nu < 2 ^ 31) (hnu2 : 32 ≤ nu) (hu0 : a0 ≤ A u) (hu : u ≠ h ∧ u ≠ s ∧ u ≠ w) : hM l a0 D sa yX5_finish cX5_finish 5 none { frames := 2, cells := 0, slots := 0, locals := 54 } [.ref (A h), .ref (A u)] (T, I, L, R, A) (fun r G' => r = none ∧ ∃ I', G' = (T, I', L, R, A) ∧ I' u = (fun j => if j < 32 then shaH m n j else I u j) ∧ ∀ q, q ≠ h → q ≠ s → q ≠ w → q ≠ u → I' q = I q) := by
  refine hM.of (by decide +kernel) (Nat.le_of_ble_eq_true rfl) ?_
  intro z hl h0 hD hS hN C E
  subst hl; subst h0; subst hD; subst hS
  have C : hC z RX5 cX5_finish := C
  have hZ := E.2.2.2.1
  show hX z 0 0 (T, I, L, R, A) [(0, .ref (A h)), (1, .ref (A u))] 0 []
  refine x_bipush (v := nI 8) C dX5_finish_0 (by decide +kernel) ?_
  refine x_aload_n C dX5_finish_2 0 rfl rfl ?_
  refine x_getiN C fl_X5_22 hTh rfl dX5_finish_3 ?_
  refine x_eqi (y := nI n) hA.2.2.1 ?_
  refine x_imulN C dX5_finish_6 ?_
  refine x_istore_n (lv' := [(2, .int (nI (8 * n))), (0, .ref (A h)), (1, .ref (A u))]) C dX5_finish_7 rfl (Nat.lt_of_lt_of_eq (by decide) hN.symm) rfl ?_
  refine x_aload_n C dX5_finish_8 1 rfl rfl ?_
  refine x_sipush (v := nI 128) C dX5_finish_9 (by decide +kernel) ?_
  refine x_callV C (ok_X5_addByte h s w hTh hRs hRw hTs hTw hh0 hs0 hw0 hhs hhw hsw hsa hT92 h92 n92 (padF m n) (n) _ (hA.congr (fun i hi => by unfold padF; rw [if_pos hi])) (pad_n m n).symm) mv_X5_addByte ml_X5_34 hTh rfl rfl rfl (Nat.le_of_ble_eq_true rfl) (hrm (rm := { frames := 0, cells := 0, slots := 0, locals := 0 }) hZ ⟨Nat.le_of_ble_eq_true rfl, Nat.le_of_ble_eq_true rfl⟩) (hcs hZ ⟨Nat.le_of_ble_eq_true rfl, Nat.le_of_ble_eq_true rfl⟩) dX5_finish_12 (fun v G' hp => ?_)
  obtain ⟨rfl, J1, rfl, hJ1, fJ1⟩ := hp
  show hX z 0 0 (T, J1, L, R, A) [(2, .int (nI (8 * n))), (0, .ref (A h)), (1, .ref (A u))] 15 []
  refine x_bipush (v := nI 56) C dX5_finish_15 (by decide +kernel) ?_
  refine x_aload_n C dX5_finish_17 1 rfl rfl ?_
  refine x_getiN C fl_X5_18 hTh rfl dX5_finish_18 ?_
  refine x_eqi (y := nI ((n + 1) % 64)) hJ1.2.1 ?_
  refine x_isub C dX5_finish_21 ?_
  refine x_bipush (v := nI 63) C dX5_finish_22 (by decide +kernel) ?_
  refine x_iand C dX5_finish_24 ?_
  refine x_eqi (y := nI ((120 - (n + 1) % 64) % 64)) (fil_z _ (by omega)) ?_
  refine x_iconst (v := nI 4) C dX5_finish_25 (by decide +kernel) ?_
  refine x_iaddN C dX5_finish_26 ?_
  refine x_istore_n (lv' := [(3, .int (nI ((120 - (n + 1) % 64) % 64 + 4))), (2, .int (nI (8 * n))), (0, .ref (A h)), (1, .ref (A u))]) C dX5_finish_27 rfl (Nat.lt_of_lt_of_eq (by decide) hN.symm) rfl ?_
  refine x_iconst (v := nI 0) C dX5_finish_28 (by decide +kernel) ?_
  refine x_istore (lv' := [(4, .int (nI 0)), (3, .int (nI ((120 - (n + 1) % 64) % 64 + 4))), (2, .int (nI (8 * n))), (0, .ref (A h)), (1, .ref (A u))]) C dX5_finish_29 (Nat.lt_of_lt_of_eq (by decide) hN.symm) rfl ?_
  have L31 : ∀ (f : Nat) (i : Nat) (J : Nat → Nat → Int32), ((120 - (n + 1) % 64) % 64 + 4) - i < f → (i ≤ (120 - (n + 1) % 64) % 64 + 4) → (shaAt J h s w (padF m n) (n + 1 + i)) → (∀ q, q ≠ h → q ≠ s → q ≠ w → J q = I q) → hX z 0 0 (T, J, L, R, A) [(4, .int (nI i)), (3, .int (nI ((120 - (n + 1) % 64) % 64 + 4))), (2, .int (nI (8 * n))), (0, .ref (A h)), (1, .ref (A u))] 31 [] := by
    intro f
    induction f with
    | zero => intro i J hmz; exact absurd hmz (Nat.not_lt_zero _)
    | succ f ih31 =>
      intro i J hmz hi hJ fJ
      refine x_iload C dX5_finish_31 0 rfl ?_
      refine x_iload_n C dX5_finish_33 1 rfl rfl ?_
      refine x_icmp_geN (tgt := 48) C (by omega) (by omega) dX5_finish_34 (by decide) (fun c34 => ?_) (fun c34 => ?_)
      · refine x_bipush (v := nI 24) C dX5_finish_48 (by decide +kernel) ?_
        refine x_istore (lv' := [(4, .int (nI 24)), (3, .int (nI ((120 - (n + 1) % 64) % 64 + 4))), (2, .int (nI (8 * n))), (0, .ref (A h)), (1, .ref (A u))]) C dX5_finish_50 (Nat.lt_of_lt_of_eq (by decide) hN.symm) rfl ?_
        have L52 : ∀ (f : Nat) (q : Nat) (x : Int32) (K : Nat → Nat → Int32), 5 - q < f → (q ≤ 4) → (x = nI 24 - nI (8 * q)) → (shaAt K h s w (padF m n) (pall n - 4 + q)) → (∀ q, q ≠ h → q ≠ s → q ≠ w → K q = I q) → hX z 0 0 (T, K, L, R, A) [(4, .int x), (3, .int (nI ((120 - (n + 1) % 64) % 64 + 4))), (2, .int (nI (8 * n))), (0, .ref (A h)), (1, .ref (A u))] 52 [] := by
          intro f
          induction f with
          | zero => intro q x K hmz; exact absurd hmz (Nat.not_lt_zero _)
          | succ f ih52 =>
            intro q x K hmz hq hx hJ2 fJ2
            refine x_iload C dX5_finish_52 0 rfl ?_
            refine x_if_lt (tgt := 75) C dX5_finish_54 (by decide) (fun c54 => ?_) (fun c54 => ?_)
            · have hq4 : q = 4 := (dn_lt q (by omega)).mp (by rw [← hx]; exact c54)
              have hS : ∀ j, j < 8 → K s j = shaS (padF m n) (pall n / 64) j := by
                have := pall_ge n
                have e := hJ2.1
                rw [show pall n - 4 + q = pall n by omega] at e
                exact e
              refine x_iconst (v := nI 0) C dX5_finish_75 (by decide +kernel) ?_
              refine x_istore (lv' := [(4, .int (nI 0)), (3, .int (nI ((120 - (n + 1) % 64) % 64 + 4))), (2, .int (nI (8 * n))), (0, .ref (A h)), (1, .ref (A u))]) C dX5_finish_76 (Nat.lt_of_lt_of_eq (by decide) hN.symm) rfl ?_
              have L78 : ∀ (f : Nat) (j : Nat) (M : Nat → Nat → Int32), 32 - j < f → (j ≤ 32) → (M = va_up K u (fun t => if t < j then shaH m n t else I u t)) → hX z 0 0 (T, M, L, R, A) [(4, .int (nI j)), (3, .int (nI ((120 - (n + 1) % 64) % 64 + 4))), (2, .int (nI (8 * n))), (0, .ref (A h)), (1, .ref (A u))] 78 [] := by
                intro f
                induction f with
                | zero => intro j M hmz; exact absurd hmz (Nat.not_lt_zero _)
                | succ f ih78 =>
                  intro j M hmz hj hM
                  refine x_iload C dX5_finish_78 0 rfl ?_
                  refine x_bipush (v := nI 32) C dX5_finish_80 (by decide +kernel) ?_
                  refine x_icmp_geN (tgt := 119) C (by omega) (by omega) dX5_finish_82 (by decide) (fun c82 => ?_) (fun c82 => ?_)
                  · exact x_vret C E (Nat.le_of_ble_eq_true rfl) (Nat.le_of_ble_eq_true rfl) dX5_finish_119 (⟨rfl, M, rfl, by rw [hM, up_eq, show j = 32 by omega], fun q q1 q2 q3 q4 => by rw [hM, up_ne _ _ q4]; exact fJ2 q q1 q2 q3⟩)
                  · refine x_aload_n C dX5_finish_85 4 rfl rfl ?_
                    refine x_iload C dX5_finish_86 0 rfl ?_
                    refine x_aload_n C dX5_finish_88 3 rfl rfl ?_
                    refine x_getrN C fl_X5_9 hTh rfl hRs dX5_finish_89 ?_
                    refine x_iload C dX5_finish_92 0 rfl ?_
                    refine x_iconst (v := nI 2) C dX5_finish_94 (by decide +kernel) ?_
                    refine x_ishrN C (by omega) (by omega) dX5_finish_95 ?_
                    refine x_ialdN C hTs (by omega) (by omega) dX5_finish_96 ?_
                    refine x_bipush (v := nI 24) C dX5_finish_97 (by decide +kernel) ?_
                    refine x_bipush (v := nI 8) C dX5_finish_99 (by decide +kernel) ?_
                    refine x_iload C dX5_finish_101 0 rfl ?_
                    refine x_iconst (v := nI 3) C dX5_finish_103 (by decide +kernel) ?_
                    refine x_iandN (q := 2) C (by omega) (by omega) rfl dX5_finish_104 ?_
                    refine x_imulN C dX5_finish_105 ?_
                    refine x_isubN C (by omega) dX5_finish_106 ?_
                    refine x_iushr C dX5_finish_107 ?_
                    refine x_sipush (v := nI 255) C dX5_finish_108 (by decide +kernel) ?_
                    refine x_iand C dX5_finish_111 ?_
                    refine x_iastN C hTu hu0 (by omega) (by omega) dX5_finish_112 (fun I2 eI2 => ?_)
                    refine x_iinc (v := nI (j + 1)) (lv' := [(4, .int (nI (j + 1))), (3, .int (nI ((120 - (n + 1) % 64) % 64 + 4))), (2, .int (nI (8 * n))), (0, .ref (A h)), (1, .ref (A u))]) C dX5_finish_113 0 rfl (nI_inc 1) (Nat.lt_of_lt_of_eq (by decide) hN.symm) rfl ?_
                    refine x_goto (tgt := 78) C dX5_finish_116 (by decide) ?_
                    refine x_sub (lv' := _) [0, 1, 2, 3, 4] rfl ?_
                    exact ih78 (j + 1) I2 (by omega) (by omega) (by rw [eI2, hM]; simp only [up_eq, up_up, up_ne _ _ (Ne.symm hu.2.1)]; rw [hS _ (by omega)]; exact congrArg (va_up K u) (by rw [upd_up]; exact fill_s _ _ rfl))
              refine x_sub (lv' := _) [0, 1, 2, 3, 4] rfl ?_
              exact L78 _ 0 K (Nat.lt_succ_self _) (by omega) (by rw [← up_self K u, up_up]; congr 1; funext t; rw [if_neg (by omega), fJ2 u hu.1 hu.2.1 hu.2.2])
            · have hq4 : q + 1 ≤ 4 := by
                have : ¬ q = 4 := fun e => c54 (by rw [hx]; exact (dn_lt q (by omega)).mpr e)
                omega
              refine x_aload_n C dX5_finish_57 3 rfl rfl ?_
              refine x_iload_n C dX5_finish_58 2 rfl rfl ?_
              refine x_iload C dX5_finish_59 0 rfl ?_
              refine x_iushr C dX5_finish_61 ?_
              refine x_sipush (v := nI 255) C dX5_finish_62 (by decide +kernel) ?_
              refine x_iand C dX5_finish_65 ?_
              refine x_callV C (ok_X5_addByte h s w hTh hRs hRw hTs hTw hh0 hs0 hw0 hhs hhw hsw hsa hT92 (fun t ht => by rw [fJ2 92 n92.2.2 n92.1 n92.2.1]; exact h92 t ht) n92 (padF m n) (pall n - 4 + q) _ hJ2 (by rw [pad_l m n (by omega), hx, pk_sub (by omega)])) mv_X5_addByte ml_X5_34 hTh rfl rfl rfl (Nat.le_of_ble_eq_true rfl) (hrm (rm := { frames := 0, cells := 0, slots := 0, locals := 0 }) hZ ⟨Nat.le_of_ble_eq_true rfl, Nat.le_of_ble_eq_true rfl⟩) (hcs hZ ⟨Nat.le_of_ble_eq_true rfl, Nat.le_of_ble_eq_true rfl⟩) dX5_finish_66 (fun v G' hp => ?_)
              obtain ⟨rfl, J3, rfl, hJ3, fJ3⟩ := hp
              show hX z 0 0 (T, J3, L, R, A) [(4, .int x), (3, .int (nI ((120 - (n + 1) % 64) % 64 + 4))), (2, .int (nI (8 * n))), (0, .ref (A h)), (1, .ref (A u))] 69 []
              refine x_iinc (v := x + (-8)) (lv' := [(4, .int (x + (-8))), (3, .int (nI ((120 - (n + 1) % 64) % 64 + 4))), (2, .int (nI (8 * n))), (0, .ref (A h)), (1, .ref (A u))]) C dX5_finish_69 0 rfl (by rfl) (Nat.lt_of_lt_of_eq (by decide) hN.symm) rfl ?_
              refine x_goto (tgt := 52) C dX5_finish_72 (by decide) ?_
              refine x_sub (lv' := _) [0, 1, 2, 3, 4] rfl ?_
              exact ih52 (q + 1) (x + (-8)) J3 (by omega) hq4 (by rw [hx]; exact dn_s q (by omega)) hJ3 (fun q q1 q2 q3 => (fJ3 q q1 q2 q3).trans (fJ2 q q1 q2 q3))
        refine x_sub (lv' := _) [0, 1, 2, 3, 4] rfl ?_
        exact L52 _ 0 (nI 24) J (Nat.lt_succ_self _) (by omega) (by decide +kernel) (by rw [← pad_z, Nat.add_zero, show (120 - (n + 1) % 64) % 64 + 4 = i by omega]; exact hJ) fJ
      · refine x_aload_n C dX5_finish_37 3 rfl rfl ?_
        refine x_iconst (v := nI 0) C dX5_finish_38 (by decide +kernel) ?_
        refine x_callV C (ok_X5_addByte h s w hTh hRs hRw hTs hTw hh0 hs0 hw0 hhs hhw hsw hsa hT92 (fun t ht => by rw [fJ 92 n92.2.2 n92.1 n92.2.1]; exact h92 t ht) n92 (padF m n) (n + 1 + i) _ hJ (pad_0 m (by omega) (by rw [← pad_z]; omega)).symm) mv_X5_addByte ml_X5_34 hTh rfl rfl rfl (Nat.le_of_ble_eq_true rfl) (hrm (rm := { frames := 0, cells := 0, slots := 0, locals := 0 }) hZ ⟨Nat.le_of_ble_eq_true rfl, Nat.le_of_ble_eq_true rfl⟩) (hcs hZ ⟨Nat.le_of_ble_eq_true rfl, Nat.le_of_ble_eq_true rfl⟩) dX5_finish_39 (fun v G' hp => ?_)
        obtain ⟨rfl, J4, rfl, hJ4, fJ4⟩ := hp
        show hX z 0 0 (T, J4, L, R, A) [(4, .int (nI i)), (3, .int (nI ((120 - (n + 1) % 64) % 64 + 4))), (2, .int (nI (8 * n))), (0, .ref (A h)), (1, .ref (A u))] 42 []
        refine x_iinc (v := nI (i + 1)) (lv' := [(4, .int (nI (i + 1))), (3, .int (nI ((120 - (n + 1) % 64) % 64 + 4))), (2, .int (nI (8 * n))), (0, .ref (A h)), (1, .ref (A u))]) C dX5_finish_42 0 rfl (nI_inc 1) (Nat.lt_of_lt_of_eq (by decide) hN.symm) rfl ?_
        refine x_goto (tgt := 31) C dX5_finish_45 (by decide) ?_
        refine x_sub (lv' := _) [0, 1, 2, 3, 4] rfl ?_
        exact ih31 (i + 1) J4 (by omega) (by omega) hJ4 (fun q q1 q2 q3 => (fJ4 q q1 q2 q3).trans (fJ q q1 q2 q3))
  refine x_sub (lv' := _) [0, 1, 2, 3, 4] rfl ?_
  exact L31 _ 0 J1 (Nat.lt_succ_self _) (by omega) hJ1 fJ1

