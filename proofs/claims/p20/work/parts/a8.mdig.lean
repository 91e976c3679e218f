/-! ===== the model: digest ===== -/
theorem rAd_s {f : Nat → Int32} {n : Nat} {x y : Int64} {v : Int32} (h : y = rAd f n x) (hv : v = f n) : 31 * y + v.toInt64 = rAd f (n + 1) x := by rw [h, hv]; rfl
set_option maxHeartbeats 4000000 in
set_option maxRecDepth 100000 in
theorem ok_X11_digest {l : Launch} {a0 : Nat} {D : va_G} {sa : Nat → Nat} {T : Nat → Option hKd} {I : Nat → Nat → Int32} {L : Nat → Nat → Int64} {R : Nat → Nat → Option Nat} {A : Nat → Nat} (mO : isM T R A a0) (ns : Nat) (hns : I 63 33 = nI ns) (hn4 : ns ≤ 4) (pa ha nx : Nat → Nat) (dn : Nat → Bool) (σ : Nat → sgT) (hS : ∀ s, s < ns → I 34 s = nI (pa s) ∧ I 35 s = nI (ha s) ∧ ha s < 2 ∧ mdE (σ s) I s (dn s) ∧ bS (σ s) ∧ σ s 7 13 = nI (nx s)) (ln : Nat) (hln : I 63 58 = nI ln) (hl160 : ln ≤ 160) (lt : Nat → Int32) (hlt : ∀ j, j < ln → I 57 j = lt j) (gn : Nat) (hgn : I 63 60 = nI gn) (hg160 : gn ≤ 160) (gt : Nat → Int32) (hgt : ∀ j, j < gn → I 59 j = gt j)  : hM l a0 D sa yX11_digest cX11_digest 5 (some .long) { frames := 1, cells := 0, slots := 0, locals := 22 } [.ref (A 63)] (T, I, L, R, A) (fun r G' => r = some (.long (dgF (fun s w => abF (pa s) (ha s) (nx s) (dn s) (σ s) (nI w)) (fun s => σ s 1) ns lt ln gt gn)) ∧ G' = (T, I, L, R, A)) := by
  refine hM.of (by decide +kernel) (Nat.le_of_ble_eq_true rfl) ?_
  intro z hl h0 hD hS hN C E
  subst hl; subst h0; subst hD; subst hS
  have C : hC z RX11 cX11_digest := C
  have hZ := E.2.2.2.1
  show hX z 0 0 (T, I, L, R, A) [(0, .ref (A 63))] 0 []
  refine x_ldc2 C dX11_digest_0 kc_X11_475 ?_
  refine x_lstore_n (lv' := [(1, .long 67), (0, .ref (A 63))]) C dX11_digest_3 rfl (Nat.lt_of_lt_of_eq (by decide) hN.symm) rfl ?_
  refine x_iconst (v := nI 0) C dX11_digest_4 (by decide +kernel) ?_
  refine x_istore_n (lv' := [(3, .int (nI 0)), (1, .long 67), (0, .ref (A 63))]) C dX11_digest_5 rfl (Nat.lt_of_lt_of_eq (by decide) hN.symm) rfl ?_
  have L6 : ∀ (fuel_ : Nat) (x : Int64) (s : Nat), ns - s < fuel_ → (s ≤ ns) → (x = dgS (fun s w => abF (pa s) (ha s) (nx s) (dn s) (σ s) (nI w)) (fun s => σ s 1) s) → hX z 0 0 (T, I, L, R, A) [(3, .int (nI s)), (1, .long x), (0, .ref (A 63))] 6 [] := by
    intro fuel_
    induction fuel_ with
    | zero => intro x s hmz; exact absurd hmz (Nat.not_lt_zero _)
    | succ fuel_ ih6 =>
      intro x s hmz hs hx
      refine x_iload_n C dX11_digest_6 0 rfl rfl ?_
      refine x_aload_n C dX11_digest_7 2 rfl rfl ?_
      refine x_getiN C fl_X11_370 mO.1 rfl dX11_digest_8 ?_
      refine x_eqi (y := nI ns) hns ?_
      refine x_icmp_geN (tgt := 87) C (by omega) (by omega) dX11_digest_11 (by decide) (fun c11 => ?_) (fun c11 => ?_)
      · refine x_iconst (v := nI 0) C dX11_digest_87 (by decide +kernel) ?_
        refine x_istore_n (lv' := [(3, .int (nI 0)), (1, .long x), (0, .ref (A 63))]) C dX11_digest_88 rfl (Nat.lt_of_lt_of_eq (by decide) hN.symm) rfl ?_
        have L89 : ∀ (fuel_ : Nat) (z2 : Int64) (k2 : Nat), ln - k2 < fuel_ → (k2 ≤ ln) → (z2 = rAd lt k2 x) → hX z 0 0 (T, I, L, R, A) [(3, .int (nI k2)), (1, .long z2), (0, .ref (A 63))] 89 [] := by
          intro fuel_
          induction fuel_ with
          | zero => intro z2 k2 hmz; exact absurd hmz (Nat.not_lt_zero _)
          | succ fuel_ ih89 =>
            intro z2 k2 hmz hk2 hz2
            refine x_iload_n C dX11_digest_89 0 rfl rfl ?_
            refine x_aload_n C dX11_digest_90 2 rfl rfl ?_
            refine x_getiN C fl_X11_450 mO.1 rfl dX11_digest_91 ?_
            refine x_eqi (y := nI ln) hln ?_
            refine x_icmp_geN (tgt := 117) C (by omega) (by omega) dX11_digest_94 (by decide) (fun c94 => ?_) (fun c94 => ?_)
            · refine x_iconst (v := nI 0) C dX11_digest_117 (by decide +kernel) ?_
              refine x_istore_n (lv' := [(3, .int (nI 0)), (1, .long z2), (0, .ref (A 63))]) C dX11_digest_118 rfl (Nat.lt_of_lt_of_eq (by decide) hN.symm) rfl ?_
              have L119 : ∀ (fuel_ : Nat) (z3 : Int64) (k3 : Nat), gn - k3 < fuel_ → (k3 ≤ gn) → (z3 = rAd gt k3 z2) → hX z 0 0 (T, I, L, R, A) [(3, .int (nI k3)), (1, .long z3), (0, .ref (A 63))] 119 [] := by
                intro fuel_
                induction fuel_ with
                | zero => intro z3 k3 hmz; exact absurd hmz (Nat.not_lt_zero _)
                | succ fuel_ ih119 =>
                  intro z3 k3 hmz hk3 hz3
                  refine x_iload_n C dX11_digest_119 0 rfl rfl ?_
                  refine x_aload_n C dX11_digest_120 2 rfl rfl ?_
                  refine x_getiN C fl_X11_457 mO.1 rfl dX11_digest_121 ?_
                  refine x_eqi (y := nI gn) hgn ?_
                  refine x_icmp_geN (tgt := 147) C (by omega) (by omega) dX11_digest_124 (by decide) (fun c124 => ?_) (fun c124 => ?_)
                  · refine x_lload_n C dX11_digest_147 1 rfl rfl ?_
                    exact x_lret C E (Nat.le_of_ble_eq_true rfl) (Nat.le_of_ble_eq_true rfl) dX11_digest_148 (⟨by unfold dgF; rw [hz3, show k3 = gn by omega, hz2, show k2 = ln by omega, hx, show s = ns by omega], rfl⟩)
                  · refine x_ldc2 C dX11_digest_127 kc_X11_477 ?_
                    refine x_lload_n C dX11_digest_130 1 rfl rfl ?_
                    refine x_lmul C dX11_digest_131 ?_
                    refine x_aload_n C dX11_digest_132 2 rfl rfl ?_
                    refine x_getrN C fl_X11_246 mO.1 rfl (mO.2.2 59 _ rfl).1 dX11_digest_133 ?_
                    refine x_iload_n C dX11_digest_136 0 rfl rfl ?_
                    refine x_ialdN C (mO.2.2 59 _ rfl).2.1 (by omega) (by omega) dX11_digest_137 ?_
                    refine x_eqi (y := gt k3) (hgt k3 (by omega)) ?_
                    refine x_i2l C dX11_digest_138 ?_
                    refine x_ladd C dX11_digest_139 ?_
                    refine x_lstore_n (lv' := [(1, .long ((31 * z3) + (Int32.toInt64 (gt k3)))), (3, .int (nI k3)), (0, .ref (A 63))]) C dX11_digest_140 rfl (Nat.lt_of_lt_of_eq (by decide) hN.symm) rfl ?_
                    refine x_iinc (v := nI (k3 + 1)) (lv' := [(3, .int (nI (k3 + 1))), (1, .long ((31 * z3) + (Int32.toInt64 (gt k3)))), (0, .ref (A 63))]) C dX11_digest_141 1 rfl (nI_inc 1) (Nat.lt_of_lt_of_eq (by decide) hN.symm) rfl ?_
                    refine x_goto (tgt := 119) C dX11_digest_144 (by decide) ?_
                    refine x_sub (lv' := _) [0, 1, 2] rfl ?_
                    exact ih119 ((31 * z3) + (Int32.toInt64 (gt k3))) (k3 + 1) (by omega) (by omega) (rAd_s hz3 rfl)
              refine x_sub (lv' := _) [0, 1, 2] rfl ?_
              exact L119 _ z2 0 (Nat.lt_succ_self _) (by omega) rfl
            · refine x_ldc2 C dX11_digest_97 kc_X11_477 ?_
              refine x_lload_n C dX11_digest_100 1 rfl rfl ?_
              refine x_lmul C dX11_digest_101 ?_
              refine x_aload_n C dX11_digest_102 2 rfl rfl ?_
              refine x_getrN C fl_X11_243 mO.1 rfl (mO.2.2 57 _ rfl).1 dX11_digest_103 ?_
              refine x_iload_n C dX11_digest_106 0 rfl rfl ?_
              refine x_ialdN C (mO.2.2 57 _ rfl).2.1 (by omega) (by omega) dX11_digest_107 ?_
              refine x_eqi (y := lt k2) (hlt k2 (by omega)) ?_
              refine x_i2l C dX11_digest_108 ?_
              refine x_ladd C dX11_digest_109 ?_
              refine x_lstore_n (lv' := [(1, .long ((31 * z2) + (Int32.toInt64 (lt k2)))), (3, .int (nI k2)), (0, .ref (A 63))]) C dX11_digest_110 rfl (Nat.lt_of_lt_of_eq (by decide) hN.symm) rfl ?_
              refine x_iinc (v := nI (k2 + 1)) (lv' := [(3, .int (nI (k2 + 1))), (1, .long ((31 * z2) + (Int32.toInt64 (lt k2)))), (0, .ref (A 63))]) C dX11_digest_111 1 rfl (nI_inc 1) (Nat.lt_of_lt_of_eq (by decide) hN.symm) rfl ?_
              refine x_goto (tgt := 89) C dX11_digest_114 (by decide) ?_
              refine x_sub (lv' := _) [0, 1, 2] rfl ?_
              exact ih89 ((31 * z2) + (Int32.toInt64 (lt k2))) (k2 + 1) (by omega) (by omega) (rAd_s hz2 rfl)
        refine x_sub (lv' := _) [0, 1, 2] rfl ?_
        exact L89 _ x 0 (Nat.lt_succ_self _) (by omega) rfl
      · refine x_iconst (v := nI 2) C dX11_digest_14 (by decide +kernel) ?_
        refine x_istore (lv' := [(4, .int (nI 2)), (3, .int (nI s)), (1, .long x), (0, .ref (A 63))]) C dX11_digest_15 (Nat.lt_of_lt_of_eq (by decide) hN.symm) rfl ?_
        have L17 : ∀ (fuel_ : Nat) (y : Int64) (w : Nat), 9 - w < fuel_ → (2 ≤ w) → (w ≤ 9) → (y = rAd (fun j => (fun s w => abF (pa s) (ha s) (nx s) (dn s) (σ s) (nI w)) s (j + 2)) (w - 2) x) → hX z 0 0 (T, I, L, R, A) [(4, .int (nI w)), (3, .int (nI s)), (1, .long y), (0, .ref (A 63))] 17 [] := by
          intro fuel_
          induction fuel_ with
          | zero => intro y w hmz; exact absurd hmz (Nat.not_lt_zero _)
          | succ fuel_ ih17 =>
            intro y w hmz hw2 hw hy
            refine x_iload C dX11_digest_17 0 rfl ?_
            refine x_bipush (v := nI 9) C dX11_digest_19 (by decide +kernel) ?_
            refine x_icmp_geN (tgt := 45) C (by omega) (by omega) dX11_digest_21 (by decide) (fun c21 => ?_) (fun c21 => ?_)
            · refine x_iconst (v := nI 0) C dX11_digest_45 (by decide +kernel) ?_
              refine x_istore (lv' := [(4, .int (nI 0)), (3, .int (nI s)), (1, .long y), (0, .ref (A 63))]) C dX11_digest_46 (Nat.lt_of_lt_of_eq (by decide) hN.symm) rfl ?_
              have L48 : ∀ (fuel_ : Nat) (y2 : Int64) (k : Nat), 32 - k < fuel_ → (k ≤ 32) → (y2 = rAd (σ s 1) k y) → hX z 0 0 (T, I, L, R, A) [(4, .int (nI k)), (3, .int (nI s)), (1, .long y2), (0, .ref (A 63))] 48 [] := by
                intro fuel_
                induction fuel_ with
                | zero => intro y2 k hmz; exact absurd hmz (Nat.not_lt_zero _)
                | succ fuel_ ih48 =>
                  intro y2 k hmz hk hy2
                  refine x_iload C dX11_digest_48 0 rfl ?_
                  refine x_bipush (v := nI 32) C dX11_digest_50 (by decide +kernel) ?_
                  refine x_icmp_geN (tgt := 81) C (by omega) (by omega) dX11_digest_52 (by decide) (fun c52 => ?_) (fun c52 => ?_)
                  · refine x_iinc (v := nI (s + 1)) (lv' := [(3, .int (nI (s + 1))), (4, .int (nI k)), (1, .long y2), (0, .ref (A 63))]) C dX11_digest_81 1 rfl (nI_inc 1) (Nat.lt_of_lt_of_eq (by decide) hN.symm) rfl ?_
                    refine x_goto (tgt := 6) C dX11_digest_84 (by decide) ?_
                    refine x_sub (lv' := _) [0, 2, 3] rfl ?_
                    exact ih6 y2 (s + 1) (by omega) (by omega) (by rw [hy2, show k = 32 by omega, hy, show w - 2 = 7 by omega, hx]; rfl)
                  · refine x_ldc2 C dX11_digest_55 kc_X11_477 ?_
                    refine x_lload_n C dX11_digest_58 2 rfl rfl ?_
                    refine x_lmul C dX11_digest_59 ?_
                    refine x_aload_n C dX11_digest_60 3 rfl rfl ?_
                    refine x_getrN C fl_X11_219 mO.1 rfl (mO.2.2 48 _ rfl).1 dX11_digest_61 ?_
                    refine x_bipush (v := nI 32) C dX11_digest_64 (by decide +kernel) ?_
                    refine x_iload_n C dX11_digest_66 1 rfl rfl ?_
                    refine x_imulN C dX11_digest_67 ?_
                    refine x_iload C dX11_digest_68 0 rfl ?_
                    refine x_iaddN C dX11_digest_70 ?_
                    refine x_ialdN C (mO.2.2 48 _ rfl).2.1 (by omega) (by omega) dX11_digest_71 ?_
                    refine x_eqi (y := σ s 1 k) ((hS s c11).2.2.2.1.2.1 k (by omega)) ?_
                    refine x_i2l C dX11_digest_72 ?_
                    refine x_ladd C dX11_digest_73 ?_
                    refine x_lstore_n (lv' := [(1, .long ((31 * y2) + (Int32.toInt64 (σ s 1 k)))), (4, .int (nI k)), (3, .int (nI s)), (0, .ref (A 63))]) C dX11_digest_74 rfl (Nat.lt_of_lt_of_eq (by decide) hN.symm) rfl ?_
                    refine x_iinc (v := nI (k + 1)) (lv' := [(4, .int (nI (k + 1))), (1, .long ((31 * y2) + (Int32.toInt64 (σ s 1 k)))), (3, .int (nI s)), (0, .ref (A 63))]) C dX11_digest_75 1 rfl (nI_inc 1) (Nat.lt_of_lt_of_eq (by decide) hN.symm) rfl ?_
                    refine x_goto (tgt := 48) C dX11_digest_78 (by decide) ?_
                    refine x_sub (lv' := _) [0, 2, 1, 3] rfl ?_
                    exact ih48 ((31 * y2) + (Int32.toInt64 (σ s 1 k))) (k + 1) (by omega) (by omega) (rAd_s hy2 rfl)
              refine x_sub (lv' := _) [0, 1, 2, 3] rfl ?_
              exact L48 _ y 0 (Nat.lt_succ_self _) (by omega) rfl
            · refine x_ldc2 C dX11_digest_24 kc_X11_477 ?_
              refine x_lload_n C dX11_digest_27 2 rfl rfl ?_
              refine x_lmul C dX11_digest_28 ?_
              refine x_aload_n C dX11_digest_29 3 rfl rfl ?_
              refine x_iload_n C dX11_digest_30 1 rfl rfl ?_
              refine x_iload C dX11_digest_31 0 rfl ?_
              refine x_callV C (ok_X11_aboutOf mO s (by omega) (pa s) (hS s c11).1 (ha s) (hS s c11).2.1 (hS s c11).2.2.1 (σ s) (nx s) (dn s) (hS s c11).2.2.2.1 (hS s c11).2.2.2.2.1 (hS s c11).2.2.2.2.2 w (by omega)) mv_X11_aboutOf ml_X11_472 mO.1 rfl rfl rfl (Nat.le_of_ble_eq_true rfl) (hrm (rm := { frames := 0, cells := 0, slots := 0, locals := 0 }) hZ ⟨Nat.le_of_ble_eq_true rfl, Nat.le_of_ble_eq_true rfl⟩) (hcs hZ ⟨Nat.le_of_ble_eq_true rfl, Nat.le_of_ble_eq_true rfl⟩) dX11_digest_33 (fun v G' hp => ?_)
              obtain ⟨rfl, rfl⟩ := hp
              show hX z 0 0 (T, I, L, R, A) [(4, .int (nI w)), (3, .int (nI s)), (1, .long y), (0, .ref (A 63))] 36 [.int (abF (pa s) (ha s) (nx s) (dn s) (σ s) (nI w)), .long (31 * y)]
              refine x_i2l C dX11_digest_36 ?_
              refine x_ladd C dX11_digest_37 ?_
              refine x_lstore_n (lv' := [(1, .long ((31 * y) + (Int32.toInt64 (abF (pa s) (ha s) (nx s) (dn s) (σ s) (nI w))))), (4, .int (nI w)), (3, .int (nI s)), (0, .ref (A 63))]) C dX11_digest_38 rfl (Nat.lt_of_lt_of_eq (by decide) hN.symm) rfl ?_
              refine x_iinc (v := nI (w + 1)) (lv' := [(4, .int (nI (w + 1))), (1, .long ((31 * y) + (Int32.toInt64 (abF (pa s) (ha s) (nx s) (dn s) (σ s) (nI w))))), (3, .int (nI s)), (0, .ref (A 63))]) C dX11_digest_39 1 rfl (nI_inc 1) (Nat.lt_of_lt_of_eq (by decide) hN.symm) rfl ?_
              refine x_goto (tgt := 17) C dX11_digest_42 (by decide) ?_
              refine x_sub (lv' := _) [0, 2, 1, 3] rfl ?_
              exact ih17 ((31 * y) + (Int32.toInt64 (abF (pa s) (ha s) (nx s) (dn s) (σ s) (nI w)))) (w + 1) (by omega) (by omega) (by omega) (by rw [show w + 1 - 2 = (w - 2) + 1 by omega]; exact rAd_s hy (by show _ = abF (pa s) (ha s) (nx s) (dn s) (σ s) (nI (w - 2 + 2)); rw [show w - 2 + 2 = w by omega]))
        refine x_sub (lv' := _) [0, 1, 2, 3] rfl ?_
        exact L17 _ x 2 (Nat.lt_succ_self _) (by omega) (by omega) rfl
  refine x_sub (lv' := _) [0, 1, 2] rfl ?_
  exact L6 _ 67 0 (Nat.lt_succ_self _) (by omega) rfl

