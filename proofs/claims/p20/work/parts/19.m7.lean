set_option maxHeartbeats 4000000 in
set_option maxRecDepth 100000 in
theorem ok_X11_mac {l : Launch} {a0 : Nat} {D : va_G} {sa : Nat → Nat} {T : Nat → Option hKd} {I : Nat → Nat → Int32} {L : Nat → Nat → Int64} {R : Nat → Nat → Option Nat} {A : Nat → Nat} (mO : isM T R A a0) (kq nk p x nx f0 n u nu wh : Nat) (h4 : ∀ t, t < 8 → I 4 t = fSha t) (h5 : ∀ t, t < 64 → I 5 t = kSha t) (hTk : T kq = some (.inl (.int, nk))) (hnk : nk < 2 ^ 31) (hpk : p + 32 ≤ nk) (hk0 : kq ≠ 0 ∧ kq ≠ 2 ∧ kq ≠ 3 ∧ kq ≠ 6 ∧ kq ≠ 63) (hTx : T x = some (.inl (.int, nx))) (hnx : nx < 2 ^ 31) (hfn : f0 + n ≤ nx) (hn3 : n ≤ 300) (hx0 : x ≠ 0) (hx63 : x ≠ 63) (hTu : T u = some (.inl (.int, nu))) (hnu : nu < 2 ^ 31) (hu0 : a0 ≤ A u) (hwh : wh + 32 ≤ nu) (hu : u ≠ 0 ∧ u ≠ 2 ∧ u ≠ 3 ∧ u ≠ 6 ∧ u ≠ 63) : hM l a0 D sa yX11_mac cX11_mac 9 none { frames := 3, cells := 0, slots := 0, locals := 79 } [.ref (A 63), .ref (A kq), .int (nI p), .ref (A x), .int (nI f0), .int (nI n), .ref (A u), .int (nI wh)] (T, I, L, R, A) (fun r G' => r = none ∧ ∃ I', G' = (T, I', L, R, A) ∧ I' u = (fun j => if wh ≤ j ∧ j < wh + 32 then hmac (fun i => I kq (p + i)) (fun i => I x (f0 + i)) n (j - wh) else I u j) ∧ fmS [0, 2, 3, 6, u] I I') := by
  refine hM.of (by decide +kernel) (Nat.le_of_ble_eq_true rfl) ?_
  intro z hl h0 hD hS hN C E
  subst hl; subst h0; subst hD; subst hS
  have C : hC z RX11 cX11_mac := C
  have hZ := E.2.2.2.1
  show hX z 0 0 (T, I, L, R, A) [(0, .ref (A 63)), (1, .ref (A kq)), (2, .int (nI p)), (3, .ref (A x)), (4, .int (nI f0)), (5, .int (nI n)), (6, .ref (A u)), (7, .int (nI wh))] 0 []
  refine x_aload_n C dX11_mac_0 0 rfl rfl ?_
  refine x_bipush (v := nI 64) C dX11_mac_1 (by decide +kernel) ?_
  refine x_putiN C fl_X11_255 mO.1 mO.2.1 rfl dX11_mac_3 (fun I1 eI1 => ?_)
  refine x_iconst (v := nI 0) C dX11_mac_6 (by decide +kernel) ?_
  refine x_istore (lv' := [(8, .int (nI 0)), (0, .ref (A 63)), (1, .ref (A kq)), (2, .int (nI p)), (3, .ref (A x)), (4, .int (nI f0)), (5, .int (nI n)), (6, .ref (A u)), (7, .int (nI wh))]) C dX11_mac_7 (Nat.lt_of_lt_of_eq (by decide) hN.symm) rfl ?_
  have L9 : ∀ (f : Nat) (k : Nat) (J : Nat → Nat → Int32), 64 - k < f → (k ≤ 64) → (J = va_up I1 0 (fun y => if y < k then hmI (fun i => I kq (p + i)) 54 y else I1 0 y)) → hX z 0 0 (T, J, L, R, A) [(8, .int (nI k)), (0, .ref (A 63)), (1, .ref (A kq)), (2, .int (nI p)), (3, .ref (A x)), (4, .int (nI f0)), (5, .int (nI n)), (6, .ref (A u)), (7, .int (nI wh))] 9 [] := by
    intro f
    induction f with
    | zero => intro k J hmz; exact absurd hmz (Nat.not_lt_zero _)
    | succ f ih9 =>
      intro k J hmz hk hJ
      refine x_iload C dX11_mac_9 0 rfl ?_
      refine x_bipush (v := nI 64) C dX11_mac_11 (by decide +kernel) ?_
      refine x_icmp_geN (tgt := 49) C (by omega) (by omega) dX11_mac_13 (by decide) (fun c13 => ?_) (fun c13 => ?_)
      · refine x_aload_n C dX11_mac_49 1 rfl rfl ?_
        refine x_aload_n C dX11_mac_50 4 rfl rfl ?_
        refine x_iload C dX11_mac_51 5 rfl ?_
        refine x_iload C dX11_mac_53 6 rfl ?_
        refine x_callV C (ok_X11_lays mO x nx f0 n 64 (by rw [hJ, up_ne _ _ (by decide), eI1, up_eq, pk_us]) hTx hnx hfn (by omega) hx0) mv_X11_lays ml_X11_274 mO.1 rfl rfl rfl (Nat.le_of_ble_eq_true rfl) (hrm (rm := { frames := 0, cells := 0, slots := 0, locals := 0 }) hZ ⟨Nat.le_of_ble_eq_true rfl, Nat.le_of_ble_eq_true rfl⟩) (hcs hZ ⟨Nat.le_of_ble_eq_true rfl, Nat.le_of_ble_eq_true rfl⟩) dX11_mac_55 (fun v G' hp => ?_)
        obtain ⟨rfl, rfl⟩ := hp
        generalize hK1 : va_up (va_up J 0 _) 63 _ = K1
        have e0 : ∀ i, i < 64 + n → K1 0 i = hmC (hmI (fun i => I kq (p + i)) 54) (fun i => I x (f0 + i)) 64 i := by
          intro i hi
          rw [← hK1, up_ne _ _ (by decide), up_eq]
          unfold hmC
          by_cases h64 : i < 64
          · rw [if_neg (by omega), if_pos h64, hJ, up_eq, if_pos (by omega)]
          · rw [if_pos (by omega), if_neg h64, hJ, up_ne _ _ hx0, eI1, up_ne _ _ hx63]
        have q1 : ∀ q, q ≠ 0 → q ≠ 63 → K1 q = I q := fun q h1 h2 => by rw [← hK1, up_ne _ _ h2, up_ne _ _ h1, hJ, up_ne _ _ h1, eI1, up_ne _ _ h2]
        have b1 : K1 63 1 = nI (64 + n) := by rw [← hK1, up_eq, pk_us]
        have s1 : ∀ j, j ≠ 1 → K1 63 j = I 63 j := fun j hj => by rw [← hK1, up_eq, pk_un hj, hJ, up_ne _ _ (by decide), eI1, up_eq, pk_un hj]
        show hX z 0 0 (T, K1, L, R, A) [(8, .int (nI k)), (0, .ref (A 63)), (1, .ref (A kq)), (2, .int (nI p)), (3, .ref (A x)), (4, .int (nI f0)), (5, .int (nI n)), (6, .ref (A u)), (7, .int (nI wh))] 58 []
        refine x_aload_n C dX11_mac_58 1 rfl rfl ?_
        refine x_aload_n C dX11_mac_59 1 rfl rfl ?_
        refine x_getrN C fl_X11_97 mO.1 rfl (mO.2.2 6 _ rfl).1 dX11_mac_60 ?_
        refine x_iconst (v := nI 0) C dX11_mac_63 (by decide +kernel) ?_
        refine x_callV C (ok_X11_hashes mO (64 + n) 6 32 0 b1 (by omega) (fun t ht => by rw [q1 4 (by decide) (by decide)]; exact h4 t ht) (fun t ht => by rw [q1 5 (by decide) (by decide)]; exact h5 t ht) (mO.2.2 6 _ rfl).2.1 (mO.2.2 6 _ rfl).2.2 (by decide) (by decide) ⟨by decide, by decide⟩) mv_X11_hashes ml_X11_278 mO.1 rfl rfl rfl (Nat.le_of_ble_eq_true rfl) (hrm (rm := { frames := 0, cells := 0, slots := 0, locals := 0 }) hZ ⟨Nat.le_of_ble_eq_true rfl, Nat.le_of_ble_eq_true rfl⟩) (hcs hZ ⟨Nat.le_of_ble_eq_true rfl, Nat.le_of_ble_eq_true rfl⟩) dX11_mac_64 (fun v G' hp => ?_)
        obtain ⟨rfl, K2, rfl, i2, r2⟩ := hp
        have e6 : ∀ i, i < 32 → K2 6 i = shaH (hmC (hmI (fun i => I kq (p + i)) 54) (fun i => I x (f0 + i)) 64) (64 + n) i := fun i hi => by rw [i2]; dsimp only; rw [if_pos (by omega), Nat.sub_zero, shaH_congr e0]
        have q2 : ∀ q, q ≠ 0 → q ≠ 2 → q ≠ 3 → q ≠ 6 → q ≠ 63 → K2 q = I q := fun q h1 h2 h3 h4 h5 => by rw [r2 q h2 h3 h4, q1 q h1 h5]
        have s2 : ∀ j, j ≠ 1 → K2 63 j = I 63 j := fun j hj => by rw [r2 63 (by decide) (by decide) (by decide), s1 j hj]
        show hX z 0 0 (T, K2, L, R, A) [(8, .int (nI k)), (0, .ref (A 63)), (1, .ref (A kq)), (2, .int (nI p)), (3, .ref (A x)), (4, .int (nI f0)), (5, .int (nI n)), (6, .ref (A u)), (7, .int (nI wh))] 67 []
        refine x_aload_n C dX11_mac_67 1 rfl rfl ?_
        refine x_bipush (v := nI 64) C dX11_mac_68 (by decide +kernel) ?_
        refine x_putiN C fl_X11_255 mO.1 mO.2.1 rfl dX11_mac_70 (fun I2 eI2 => ?_)
        refine x_iconst (v := nI 0) C dX11_mac_73 (by decide +kernel) ?_
        refine x_istore (lv' := [(8, .int (nI 0)), (0, .ref (A 63)), (1, .ref (A kq)), (2, .int (nI p)), (3, .ref (A x)), (4, .int (nI f0)), (5, .int (nI n)), (6, .ref (A u)), (7, .int (nI wh))]) C dX11_mac_74 (Nat.lt_of_lt_of_eq (by decide) hN.symm) rfl ?_
        have L76 : ∀ (f : Nat) (k2 : Nat) (J3 : Nat → Nat → Int32), 64 - k2 < f → (k2 ≤ 64) → (J3 = va_up I2 0 (fun y => if y < k2 then hmI (fun i => I kq (p + i)) 92 y else I2 0 y)) → hX z 0 0 (T, J3, L, R, A) [(8, .int (nI k2)), (0, .ref (A 63)), (1, .ref (A kq)), (2, .int (nI p)), (3, .ref (A x)), (4, .int (nI f0)), (5, .int (nI n)), (6, .ref (A u)), (7, .int (nI wh))] 76 [] := by
          intro f
          induction f with
          | zero => intro k2 J3 hmz; exact absurd hmz (Nat.not_lt_zero _)
          | succ f ih76 =>
            intro k2 J3 hmz hk2 hJ3
            refine x_iload C dX11_mac_76 0 rfl ?_
            refine x_bipush (v := nI 64) C dX11_mac_78 (by decide +kernel) ?_
            refine x_icmp_geN (tgt := 116) C (by omega) (by omega) dX11_mac_80 (by decide) (fun c80 => ?_) (fun c80 => ?_)
            · refine x_aload_n C dX11_mac_116 1 rfl rfl ?_
              refine x_aload_n C dX11_mac_117 1 rfl rfl ?_
              refine x_getrN C fl_X11_97 mO.1 rfl (mO.2.2 6 _ rfl).1 dX11_mac_118 ?_
              refine x_iconst (v := nI 0) C dX11_mac_121 (by decide +kernel) ?_
              refine x_bipush (v := nI 32) C dX11_mac_122 (by decide +kernel) ?_
              refine x_callV C (ok_X11_lays mO 6 32 0 32 64 (by rw [hJ3, up_ne _ _ (by decide), eI2, up_eq, pk_us]) (mO.2.2 6 _ rfl).2.1 (by decide) (by decide) (by decide) (by decide)) mv_X11_lays ml_X11_274 mO.1 rfl rfl rfl (Nat.le_of_ble_eq_true rfl) (hrm (rm := { frames := 0, cells := 0, slots := 0, locals := 0 }) hZ ⟨Nat.le_of_ble_eq_true rfl, Nat.le_of_ble_eq_true rfl⟩) (hcs hZ ⟨Nat.le_of_ble_eq_true rfl, Nat.le_of_ble_eq_true rfl⟩) dX11_mac_124 (fun v G' hp => ?_)
              obtain ⟨rfl, rfl⟩ := hp
              generalize hK3 : va_up (va_up J3 0 _) 63 _ = K3
              have e3 : ∀ i, i < 96 → K3 0 i = hmC (hmI (fun i => I kq (p + i)) 92) (shaH (hmC (hmI (fun i => I kq (p + i)) 54) (fun i => I x (f0 + i)) 64) (64 + n)) 64 i := by
                intro i hi
                rw [← hK3, up_ne _ _ (by decide), up_eq]
                unfold hmC
                by_cases h64 : i < 64
                · rw [if_neg (by omega), if_pos h64, hJ3, up_eq, if_pos (by omega)]
                · rw [if_pos (by omega), if_neg h64, Nat.zero_add, hJ3, up_ne _ _ (by decide), eI2, up_ne _ _ (by decide), e6 _ (by omega)]; rfl
              have q3 : ∀ q, q ≠ 0 → q ≠ 2 → q ≠ 3 → q ≠ 6 → q ≠ 63 → K3 q = I q := fun q h1 h2 h3 h4 h5 => by rw [← hK3, up_ne _ _ h5, up_ne _ _ h1, hJ3, up_ne _ _ h1, eI2, up_ne _ _ h5, q2 q h1 h2 h3 h4 h5]
              have b3 : K3 63 1 = nI 96 := by rw [← hK3, up_eq, pk_us]
              have s3 : ∀ j, j ≠ 1 → K3 63 j = I 63 j := fun j hj => by rw [← hK3, up_eq, pk_un hj, hJ3, up_ne _ _ (by decide), eI2, up_eq, pk_un hj, s2 j hj]
              show hX z 0 0 (T, K3, L, R, A) [(8, .int (nI k2)), (0, .ref (A 63)), (1, .ref (A kq)), (2, .int (nI p)), (3, .ref (A x)), (4, .int (nI f0)), (5, .int (nI n)), (6, .ref (A u)), (7, .int (nI wh))] 127 []
              refine x_aload_n C dX11_mac_127 1 rfl rfl ?_
              refine x_aload C dX11_mac_128 7 rfl ?_
              refine x_iload C dX11_mac_130 8 rfl ?_
              refine x_callV C (ok_X11_hashes mO 96 u nu wh b3 (by omega) (fun t ht => by rw [q3 4 (by decide) (by decide) (by decide) (by decide) (by decide)]; exact h4 t ht) (fun t ht => by rw [q3 5 (by decide) (by decide) (by decide) (by decide) (by decide)]; exact h5 t ht) hTu hu0 hwh hnu ⟨hu.2.1, hu.2.2.1⟩) mv_X11_hashes ml_X11_278 mO.1 rfl rfl rfl (Nat.le_of_ble_eq_true rfl) (hrm (rm := { frames := 0, cells := 0, slots := 0, locals := 0 }) hZ ⟨Nat.le_of_ble_eq_true rfl, Nat.le_of_ble_eq_true rfl⟩) (hcs hZ ⟨Nat.le_of_ble_eq_true rfl, Nat.le_of_ble_eq_true rfl⟩) dX11_mac_132 (fun v G' hp => ?_)
              obtain ⟨rfl, K4, rfl, i4, r4⟩ := hp
              show hX z 0 0 (T, K4, L, R, A) [(8, .int (nI k2)), (0, .ref (A 63)), (1, .ref (A kq)), (2, .int (nI p)), (3, .ref (A x)), (4, .int (nI f0)), (5, .int (nI n)), (6, .ref (A u)), (7, .int (nI wh))] 135 []
              exact x_vret C E (Nat.le_of_ble_eq_true rfl) (Nat.le_of_ble_eq_true rfl) dX11_mac_135 (⟨rfl, K4, rfl, by rw [i4, shaH_congr e3, q3 u hu.1 hu.2.1 hu.2.2.1 hu.2.2.2.1 hu.2.2.2.2]; rfl, fun q hq h63 => by simp at hq; rw [r4 q hq.2.1 hq.2.2.1 hq.2.2.2.2]; exact q3 q hq.1 hq.2.1 hq.2.2.1 hq.2.2.2.1 h63, fun j hj => by rw [r4 63 (by decide) (by decide) (Ne.symm hu.2.2.2.2)]; exact s3 j hj⟩)
            · refine x_aload_n C dX11_mac_83 1 rfl rfl ?_
              refine x_getrN C fl_X11_7 mO.1 rfl (mO.2.2 0 _ rfl).1 dX11_mac_84 ?_
              refine x_iload C dX11_mac_87 0 rfl ?_
              refine x_iload C dX11_mac_89 0 rfl ?_
              refine x_bipush (v := nI 32) C dX11_mac_91 (by decide +kernel) ?_
              refine x_icmp_geN (tgt := 105) C (by omega) (by omega) dX11_mac_93 (by decide) (fun c93 => ?_) (fun c93 => ?_)
              · refine x_iconst (v := nI 0) C dX11_mac_105 (by decide +kernel) ?_
                refine x_bipush (v := nI 92) C dX11_mac_106 (by decide +kernel) ?_
                refine x_ixor C dX11_mac_108 ?_
                refine x_iastN C (mO.2.2 0 _ rfl).2.1 (mO.2.2 0 _ rfl).2.2 (by omega) (by omega) dX11_mac_109 (fun I3 eI3 => ?_)
                refine x_iinc (v := nI (k2 + 1)) (lv' := [(8, .int (nI (k2 + 1))), (0, .ref (A 63)), (1, .ref (A kq)), (2, .int (nI p)), (3, .ref (A x)), (4, .int (nI f0)), (5, .int (nI n)), (6, .ref (A u)), (7, .int (nI wh))]) C dX11_mac_110 0 rfl (nI_inc 1) (Nat.lt_of_lt_of_eq (by decide) hN.symm) rfl ?_
                refine x_goto (tgt := 76) C dX11_mac_113 (by decide) ?_
                refine x_sub (lv' := _) [0, 1, 2, 3, 4, 5, 6, 7, 8] rfl ?_
                exact ih76 (k2 + 1) I3 (by omega) (by omega) (by rw [eI3, hJ3]; simp only [up_eq, up_up]; exact congrArg (va_up I2 0) (by rw [upd_up]; exact fill_s (hmI (fun i => I kq (p + i)) 92) _ (by unfold hmI; rw [if_neg (by omega)])))
              · refine x_aload_n C dX11_mac_96 2 rfl rfl ?_
                refine x_iload_n C dX11_mac_97 3 rfl rfl ?_
                refine x_iload C dX11_mac_98 0 rfl ?_
                refine x_iaddN C dX11_mac_100 ?_
                refine x_ialdN C hTk (by omega) (by omega) dX11_mac_101 ?_
                refine x_goto (tgt := 106) C dX11_mac_102 (by decide) ?_
                refine x_bipush (v := nI 92) C dX11_mac_106 (by decide +kernel) ?_
                refine x_ixor C dX11_mac_108 ?_
                refine x_iastN C (mO.2.2 0 _ rfl).2.1 (mO.2.2 0 _ rfl).2.2 (by omega) (by omega) dX11_mac_109 (fun I4 eI4 => ?_)
                refine x_iinc (v := nI (k2 + 1)) (lv' := [(8, .int (nI (k2 + 1))), (0, .ref (A 63)), (1, .ref (A kq)), (2, .int (nI p)), (3, .ref (A x)), (4, .int (nI f0)), (5, .int (nI n)), (6, .ref (A u)), (7, .int (nI wh))]) C dX11_mac_110 0 rfl (nI_inc 1) (Nat.lt_of_lt_of_eq (by decide) hN.symm) rfl ?_
                refine x_goto (tgt := 76) C dX11_mac_113 (by decide) ?_
                refine x_sub (lv' := _) [0, 1, 2, 3, 4, 5, 6, 7, 8] rfl ?_
                exact ih76 (k2 + 1) I4 (by omega) (by omega) (by rw [eI4, hJ3]; simp only [up_eq, up_up]; exact congrArg (va_up I2 0) (by rw [upd_up]; exact fill_s (hmI (fun i => I kq (p + i)) 92) _ (by unfold hmI; rw [if_pos (by omega), up_ne _ _ hk0.1, eI2, up_ne _ _ hk0.2.2.2.2, q2 kq hk0.1 hk0.2.1 hk0.2.2.1 hk0.2.2.2.1 hk0.2.2.2.2])))
        refine x_sub (lv' := _) [0, 1, 2, 3, 4, 5, 6, 7, 8] rfl ?_
        exact L76 _ 0 I2 (Nat.lt_succ_self _) (by omega) (fill_0 I2 0 _)
      · refine x_aload_n C dX11_mac_16 1 rfl rfl ?_
        refine x_getrN C fl_X11_7 mO.1 rfl (mO.2.2 0 _ rfl).1 dX11_mac_17 ?_
        refine x_iload C dX11_mac_20 0 rfl ?_
        refine x_iload C dX11_mac_22 0 rfl ?_
        refine x_bipush (v := nI 32) C dX11_mac_24 (by decide +kernel) ?_
        refine x_icmp_geN (tgt := 38) C (by omega) (by omega) dX11_mac_26 (by decide) (fun c26 => ?_) (fun c26 => ?_)
        · refine x_iconst (v := nI 0) C dX11_mac_38 (by decide +kernel) ?_
          refine x_bipush (v := nI 54) C dX11_mac_39 (by decide +kernel) ?_
          refine x_ixor C dX11_mac_41 ?_
          refine x_iastN C (mO.2.2 0 _ rfl).2.1 (mO.2.2 0 _ rfl).2.2 (by omega) (by omega) dX11_mac_42 (fun I5 eI5 => ?_)
          refine x_iinc (v := nI (k + 1)) (lv' := [(8, .int (nI (k + 1))), (0, .ref (A 63)), (1, .ref (A kq)), (2, .int (nI p)), (3, .ref (A x)), (4, .int (nI f0)), (5, .int (nI n)), (6, .ref (A u)), (7, .int (nI wh))]) C dX11_mac_43 0 rfl (nI_inc 1) (Nat.lt_of_lt_of_eq (by decide) hN.symm) rfl ?_
          refine x_goto (tgt := 9) C dX11_mac_46 (by decide) ?_
          refine x_sub (lv' := _) [0, 1, 2, 3, 4, 5, 6, 7, 8] rfl ?_
          exact ih9 (k + 1) I5 (by omega) (by omega) (by rw [eI5, hJ]; simp only [up_eq, up_up]; exact congrArg (va_up I1 0) (by rw [upd_up]; exact fill_s (hmI (fun i => I kq (p + i)) 54) _ (by unfold hmI; rw [if_neg (by omega)])))
        · refine x_aload_n C dX11_mac_29 2 rfl rfl ?_
          refine x_iload_n C dX11_mac_30 3 rfl rfl ?_
          refine x_iload C dX11_mac_31 0 rfl ?_
          refine x_iaddN C dX11_mac_33 ?_
          refine x_ialdN C hTk (by omega) (by omega) dX11_mac_34 ?_
          refine x_goto (tgt := 39) C dX11_mac_35 (by decide) ?_
          refine x_bipush (v := nI 54) C dX11_mac_39 (by decide +kernel) ?_
          refine x_ixor C dX11_mac_41 ?_
          refine x_iastN C (mO.2.2 0 _ rfl).2.1 (mO.2.2 0 _ rfl).2.2 (by omega) (by omega) dX11_mac_42 (fun I6 eI6 => ?_)
          refine x_iinc (v := nI (k + 1)) (lv' := [(8, .int (nI (k + 1))), (0, .ref (A 63)), (1, .ref (A kq)), (2, .int (nI p)), (3, .ref (A x)), (4, .int (nI f0)), (5, .int (nI n)), (6, .ref (A u)), (7, .int (nI wh))]) C dX11_mac_43 0 rfl (nI_inc 1) (Nat.lt_of_lt_of_eq (by decide) hN.symm) rfl ?_
          refine x_goto (tgt := 9) C dX11_mac_46 (by decide) ?_
          refine x_sub (lv' := _) [0, 1, 2, 3, 4, 5, 6, 7, 8] rfl ?_
          exact ih9 (k + 1) I6 (by omega) (by omega) (by rw [eI6, hJ]; simp only [up_eq, up_up]; exact congrArg (va_up I1 0) (by rw [upd_up]; exact fill_s (hmI (fun i => I kq (p + i)) 54) _ (by unfold hmI; rw [if_pos (by omega), up_ne _ _ hk0.1, eI1, up_ne _ _ hk0.2.2.2.2])))
  refine x_sub (lv' := _) [0, 1, 2, 3, 4, 5, 6, 7, 8] rfl ?_
  exact L9 _ 0 I1 (Nat.lt_succ_self _) (by omega) (fill_0 I1 0 _)

