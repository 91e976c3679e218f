theorem sec_lo (v j : Int32) {q : Nat} (h : q < 4) : secM v j q = iusr v (nI 24 - nI (8 * q)) &&& nI 255 := by
  unfold secM; rw [if_pos h, pk_sub (by omega)]
theorem sec_hi (v j : Int32) {q : Nat} (h : q < 4) : secM v j (4 + q) = iusr j (nI 24 - nI (8 * q)) &&& nI 255 := by
  unfold secM; rw [if_neg (by omega), show 4 + q - 4 = q by omega, pk_sub (by omega)]
theorem lt_s' {p : Nat → Prop} {n : Nat} (h : ∀ i, i < n → p i) (hn : p n) : ∀ i, i < n + 1 → p i := fun i hi => by
  by_cases e : i = n
  · rw [e]; exact hn
  · exact h i (by omega)
set_option maxHeartbeats 4000000 in
set_option maxRecDepth 100000 in
theorem ok_X11_secret {l : Launch} {a0 : Nat} {D : va_G} {sa : Nat → Nat} {T : Nat → Option hKd} {I : Nat → Nat → Int32} {L : Nat → Nat → Int64} {R : Nat → Nat → Option Nat} {A : Nat → Nat} (mO : isM T R A a0) (v jv : Int32) (u nu p : Nat) (h4 : ∀ t, t < 8 → I 4 t = fSha t) (h5 : ∀ t, t < 64 → I 5 t = kSha t) (hTu : T u = some (.inl (.int, nu))) (hnu : nu < 2 ^ 31) (hu0 : a0 ≤ A u) (hp : p + 32 ≤ nu) (hu : u ≠ 0 ∧ u ≠ 2 ∧ u ≠ 3 ∧ u ≠ 63) : hM l a0 D sa yX11_secret cX11_secret 6 none { frames := 3, cells := 0, slots := 0, locals := 79 } [.ref (A 63), .int v, .int jv, .ref (A u), .int (nI p)] (T, I, L, R, A) (fun r G' => r = none ∧ ∃ I', G' = (T, I', L, R, A) ∧ I' u = (fun j => if p ≤ j ∧ j < p + 32 then secF v jv (j - p) else I u j) ∧ fmS [0, 2, 3, u] I I') := by
  refine hM.of (by decide +kernel) (Nat.le_of_ble_eq_true rfl) ?_
  intro z hl h0 hD hS hN C E
  subst hl; subst h0; subst hD; subst hS
  have C : hC z RX11 cX11_secret := C
  have hZ := E.2.2.2.1
  show hX z 0 0 (T, I, L, R, A) [(0, .ref (A 63)), (1, .int v), (2, .int jv), (3, .ref (A u)), (4, .int (nI p))] 0 []
  refine x_aload_n C dX11_secret_0 0 rfl rfl ?_
  refine x_iconst (v := nI 0) C dX11_secret_1 (by decide +kernel) ?_
  refine x_putiN C fl_X11_255 mO.1 mO.2.1 rfl dX11_secret_2 (fun I1 eI1 => ?_)
  refine x_bipush (v := nI 24) C dX11_secret_5 (by decide +kernel) ?_
  refine x_istore (lv' := [(5, .int (nI 24)), (0, .ref (A 63)), (1, .int v), (2, .int jv), (3, .ref (A u)), (4, .int (nI p))]) C dX11_secret_7 (Nat.lt_of_lt_of_eq (by decide) hN.symm) rfl ?_
  have L9 : ∀ (f : Nat) (q : Nat) (x : Int32) (J : Nat → Nat → Int32), 5 - q < f → (q ≤ 4) → (x = nI 24 - nI (8 * q)) → (J 63 1 = nI q) → (∀ i, i < q → J 0 i = secM v jv i) → (fmS [0] I J) → hX z 0 0 (T, J, L, R, A) [(5, .int x), (0, .ref (A 63)), (1, .int v), (2, .int jv), (3, .ref (A u)), (4, .int (nI p))] 9 [] := by
    intro f
    induction f with
    | zero => intro q x J hmz; exact absurd hmz (Nat.not_lt_zero _)
    | succ f ih9 =>
      intro q x J hmz hq hx hb h0 g
      refine x_iload C dX11_secret_9 0 rfl ?_
      refine x_if_lt (tgt := 47) C dX11_secret_11 (by decide) (fun c11 => ?_) (fun c11 => ?_)
      · have hq4 : q = 4 := (dn_lt q (by omega)).mp (by rw [← hx]; exact c11)
        refine x_bipush (v := nI 24) C dX11_secret_47 (by decide +kernel) ?_
        refine x_istore (lv' := [(5, .int (nI 24)), (0, .ref (A 63)), (1, .int v), (2, .int jv), (3, .ref (A u)), (4, .int (nI p))]) C dX11_secret_49 (Nat.lt_of_lt_of_eq (by decide) hN.symm) rfl ?_
        have L51 : ∀ (f : Nat) (r : Nat) (x2 : Int32) (K : Nat → Nat → Int32), 5 - r < f → (r ≤ 4) → (x2 = nI 24 - nI (8 * r)) → (K 63 1 = nI (4 + r)) → (∀ i, i < 4 + r → K 0 i = secM v jv i) → (fmS [0] I K) → hX z 0 0 (T, K, L, R, A) [(5, .int x2), (0, .ref (A 63)), (1, .int v), (2, .int jv), (3, .ref (A u)), (4, .int (nI p))] 51 [] := by
          intro f
          induction f with
          | zero => intro r x2 K hmz; exact absurd hmz (Nat.not_lt_zero _)
          | succ f ih51 =>
            intro r x2 K hmz hr hx2 hb2 h02 g2
            refine x_iload C dX11_secret_51 0 rfl ?_
            refine x_if_lt (tgt := 89) C dX11_secret_53 (by decide) (fun c53 => ?_) (fun c53 => ?_)
            · have hr4 : r = 4 := (dn_lt r (by omega)).mp (by rw [← hx2]; exact c53)
              refine x_aload_n C dX11_secret_89 1 rfl rfl ?_
              refine x_aload_n C dX11_secret_90 4 rfl rfl ?_
              refine x_iload C dX11_secret_91 5 rfl ?_
              refine x_callV C (ok_X11_hashes mO 8 u nu p (by rw [hb2, show 4 + r = 8 by omega]) (by omega) (fun t ht => by rw [g2.1 4 (by simp) (by decide)]; exact h4 t ht) (fun t ht => by rw [g2.1 5 (by simp) (by decide)]; exact h5 t ht) hTu hu0 hp hnu ⟨hu.2.1, hu.2.2.1⟩) mv_X11_hashes ml_X11_278 mO.1 rfl rfl rfl (Nat.le_of_ble_eq_true rfl) (hrm (rm := { frames := 0, cells := 0, slots := 0, locals := 0 }) hZ ⟨Nat.le_of_ble_eq_true rfl, Nat.le_of_ble_eq_true rfl⟩) (hcs hZ ⟨Nat.le_of_ble_eq_true rfl, Nat.le_of_ble_eq_true rfl⟩) dX11_secret_93 (fun v G' hp => ?_)
              obtain ⟨rfl, M, rfl, iM, rM⟩ := hp
              show hX z 0 0 (T, M, L, R, A) [(5, .int x2), (0, .ref (A 63)), (1, .int v), (2, .int jv), (3, .ref (A u)), (4, .int (nI p))] 96 []
              exact x_vret C E (Nat.le_of_ble_eq_true rfl) (Nat.le_of_ble_eq_true rfl) dX11_secret_96 (⟨rfl, M, rfl, by rw [iM, shaH_congr (fun i hi => h02 i (by omega)), g2.1 u (by simp [hu.1]) hu.2.2.2]; rfl, fun t h1 h2 => by simp at h1; rw [rM t h1.2.1 h1.2.2.1 h1.2.2.2]; exact g2.1 t (by simp [h1.1]) h2, fun j hj => by rw [rM 63 (by decide) (by decide) (Ne.symm hu.2.2.2)]; exact g2.2 j hj⟩)
            · have hq4 : r + 1 ≤ 4 := by
                have : ¬ r = 4 := fun e => c53 (by rw [hx2]; exact (dn_lt r (by omega)).mpr e)
                omega
              refine x_aload_n C dX11_secret_56 1 rfl rfl ?_
              refine x_getrN C fl_X11_7 mO.1 rfl (mO.2.2 0 _ rfl).1 dX11_secret_57 ?_
              refine x_aload_n C dX11_secret_60 1 rfl rfl ?_
              refine x_getiN C fl_X11_255 mO.1 rfl dX11_secret_61 ?_
              refine x_eqi (y := nI (4 + r)) hb2 ?_
              refine x_iload_n C dX11_secret_64 3 rfl rfl ?_
              refine x_iload C dX11_secret_65 0 rfl ?_
              refine x_iushr C dX11_secret_67 ?_
              refine x_sipush (v := nI 255) C dX11_secret_68 (by decide +kernel) ?_
              refine x_iand C dX11_secret_71 ?_
              refine x_iastN C (mO.2.2 0 _ rfl).2.1 (mO.2.2 0 _ rfl).2.2 (by omega) (by omega) dX11_secret_72 (fun I2 eI2 => ?_)
              refine x_aload_n C dX11_secret_73 1 rfl rfl ?_
              refine x_dup C dX11_secret_74 rfl ?_
              refine x_getiN C fl_X11_255 mO.1 rfl dX11_secret_75 ?_
              refine x_eqi (y := nI (4 + r)) (by rw [eI2, up_ne _ _ (by decide)]; exact hb2) ?_
              refine x_iconst (v := nI 1) C dX11_secret_78 (by decide +kernel) ?_
              refine x_iaddN C dX11_secret_79 ?_
              refine x_putiN C fl_X11_255 mO.1 mO.2.1 rfl dX11_secret_80 (fun I3 eI3 => ?_)
              refine x_iinc (v := x2 + (-8)) (lv' := [(5, .int (x2 + (-8))), (0, .ref (A 63)), (1, .int v), (2, .int jv), (3, .ref (A u)), (4, .int (nI p))]) C dX11_secret_83 0 rfl (by rfl) (Nat.lt_of_lt_of_eq (by decide) hN.symm) rfl ?_
              refine x_goto (tgt := 51) C dX11_secret_86 (by decide) ?_
              refine x_sub (lv' := _) [0, 1, 2, 3, 4, 5] rfl ?_
              exact ih51 (r + 1) (x2 + (-8)) I3 (by omega) hq4 (by rw [hx2]; exact dn_s r (by omega)) (by rw [eI3, up_eq, pk_us]; exact congrArg nI (by omega)) (by rw [show 4 + (r + 1) = (4 + r) + 1 by omega]; exact lt_s' (fun i hi => by rw [eI3, up_ne _ _ (by decide), eI2, up_eq, pk_un (by omega)]; exact h02 i hi) (by rw [eI3, up_ne _ _ (by decide), eI2, up_eq, pk_us, sec_hi v jv (by omega), hx2])) (by rw [eI3, eI2]; exact (g2.up (by simp) (by decide)).sc)
        refine x_sub (lv' := _) [0, 1, 2, 3, 4, 5] rfl ?_
        exact L51 _ 0 (nI 24) J (Nat.lt_succ_self _) (by omega) (by decide +kernel) (by rw [hb, hq4]) (fun i hi => h0 i (by omega)) g
      · have hq4 : q + 1 ≤ 4 := by
          have : ¬ q = 4 := fun e => c11 (by rw [hx]; exact (dn_lt q (by omega)).mpr e)
          omega
        refine x_aload_n C dX11_secret_14 1 rfl rfl ?_
        refine x_getrN C fl_X11_7 mO.1 rfl (mO.2.2 0 _ rfl).1 dX11_secret_15 ?_
        refine x_aload_n C dX11_secret_18 1 rfl rfl ?_
        refine x_getiN C fl_X11_255 mO.1 rfl dX11_secret_19 ?_
        refine x_eqi (y := nI q) hb ?_
        refine x_iload_n C dX11_secret_22 2 rfl rfl ?_
        refine x_iload C dX11_secret_23 0 rfl ?_
        refine x_iushr C dX11_secret_25 ?_
        refine x_sipush (v := nI 255) C dX11_secret_26 (by decide +kernel) ?_
        refine x_iand C dX11_secret_29 ?_
        refine x_iastN C (mO.2.2 0 _ rfl).2.1 (mO.2.2 0 _ rfl).2.2 (by omega) (by omega) dX11_secret_30 (fun I4 eI4 => ?_)
        refine x_aload_n C dX11_secret_31 1 rfl rfl ?_
        refine x_dup C dX11_secret_32 rfl ?_
        refine x_getiN C fl_X11_255 mO.1 rfl dX11_secret_33 ?_
        refine x_eqi (y := nI q) (by rw [eI4, up_ne _ _ (by decide)]; exact hb) ?_
        refine x_iconst (v := nI 1) C dX11_secret_36 (by decide +kernel) ?_
        refine x_iaddN C dX11_secret_37 ?_
        refine x_putiN C fl_X11_255 mO.1 mO.2.1 rfl dX11_secret_38 (fun I5 eI5 => ?_)
        refine x_iinc (v := x + (-8)) (lv' := [(5, .int (x + (-8))), (0, .ref (A 63)), (1, .int v), (2, .int jv), (3, .ref (A u)), (4, .int (nI p))]) C dX11_secret_41 0 rfl (by rfl) (Nat.lt_of_lt_of_eq (by decide) hN.symm) rfl ?_
        refine x_goto (tgt := 9) C dX11_secret_44 (by decide) ?_
        refine x_sub (lv' := _) [0, 1, 2, 3, 4, 5] rfl ?_
        exact ih9 (q + 1) (x + (-8)) I5 (by omega) hq4 (by rw [hx]; exact dn_s q (by omega)) (by rw [eI5, up_eq, pk_us]) (lt_s' (fun i hi => by rw [eI5, up_ne _ _ (by decide), eI4, up_eq, pk_un (by omega)]; exact h0 i hi) (by rw [eI5, up_ne _ _ (by decide), eI4, up_eq, pk_us, sec_lo v jv (by omega), hx])) (by rw [eI5, eI4]; exact (g.up (by simp) (by decide)).sc)
  refine x_sub (lv' := _) [0, 1, 2, 3, 4, 5] rfl ?_
  exact L9 _ 0 (nI 24) I1 (Nat.lt_succ_self _) (by omega) (by decide +kernel) (by rw [eI1, up_eq, pk_us]) (fun i hi => absurd hi (by omega)) (by rw [eI1]; exact fmS.rf.sc)

