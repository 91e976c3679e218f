/-- HMAC with a key of 32 bytes, and the two keys made by it -/
def hmI (key : Nat → Int32) (p i : Nat) : Int32 := (if i < 32 then key i else nI 0) ^^^ nI p
def hmC (f g : Nat → Int32) (n i : Nat) : Int32 := if i < n then f i else g (i - n)
def hmac (key x : Nat → Int32) (n : Nat) : Nat → Int32 := shaH (hmC (hmI key 92) (shaH (hmC (hmI key 54) x 64) (64 + n)) 64) 96
theorem hmac_congr {k k' x x' : Nat → Int32} {n : Nat} (hk : ∀ i, i < 32 → k i = k' i) (hx : ∀ i, i < n → x i = x' i) : hmac k x n = hmac k' x' n := by
  have e : ∀ p, hmI k p = hmI k' p := by
    intro p; funext i; unfold hmI
    by_cases h : i < 32
    · rw [if_pos h, if_pos h, hk i h]
    · rw [if_neg h, if_neg h]
  have e2 : shaH (hmC (hmI k' 54) x 64) (64 + n) = shaH (hmC (hmI k' 54) x' 64) (64 + n) := by
    apply shaH_congr
    intro i hi
    unfold hmC
    by_cases h : i < 64
    · rw [if_pos h, if_pos h]
    · rw [if_neg h, if_neg h]; exact hx _ (by omega)
  unfold hmac
  rw [e 92, e 54, e2]
/-- which cells of the model may have changed: S, and the place 1 of its object -/
def fmS (S : List Nat) (I J : Nat → Nat → Int32) : Prop := (∀ q, q ∉ S → q ≠ 63 → J q = I q) ∧ ∀ j, j ≠ 1 → J 63 j = I 63 j
theorem fmS.rf {S : List Nat} {I : Nat → Nat → Int32} : fmS S I I := ⟨fun _ _ _ => rfl, fun _ _ => rfl⟩
theorem fmS.up {S : List Nat} {I J : Nat → Nat → Int32} {q : Nat} {f : Nat → Int32} (h : fmS S I J) (hq : q ∈ S) (h63 : q ≠ 63) : fmS S I (va_up J q f) := ⟨fun p h1 h2 => by rw [up_ne _ _ (fun e : p = q => h1 (by rw [e]; exact hq))]; exact h.1 p h1 h2, fun j hj => by rw [up_ne _ _ (Ne.symm h63)]; exact h.2 j hj⟩
theorem fmS.sc {S : List Nat} {I J : Nat → Nat → Int32} {x : Int32} (h : fmS S I J) : fmS S I (va_up J 63 (upd (J 63) 1 x)) := ⟨fun p h1 h2 => by rw [up_ne _ _ h2]; exact h.1 p h1 h2, fun j hj => by rw [up_eq]; unfold upd; rw [if_neg hj]; exact h.2 j hj⟩
theorem fmS.tr {S U : List Nat} {I J K : Nat → Nat → Int32} (h : fmS S I J) (k : fmS U J K) (hs : ∀ q, q ∈ U → q ∈ S) : fmS S I K := ⟨fun p h1 h2 => (k.1 p (fun e => h1 (hs p e)) h2).trans (h.1 p h1 h2), fun j hj => (k.2 j hj).trans (h.2 j hj)⟩
theorem fmS.wk {S U : List Nat} {I J : Nat → Nat → Int32} (h : fmS S I J) (hs : ∀ q, q ∈ S → q ∈ U) : fmS U I J := ⟨fun p h1 h2 => h.1 p (fun e => h1 (hs p e)) h2, h.2⟩
theorem seg_s {α : Type} (f g : Nat → α) (b : Nat) {j : Nat} {x : α} (hx : x = f j) : va_up (fun t => if b ≤ t ∧ t < b + j then f (t - b) else g t) (b + j) x = fun t => if b ≤ t ∧ t < b + (j + 1) then f (t - b) else g t := by
  funext t
  unfold va_up
  dsimp only
  by_cases e : t = b + j
  · rw [if_pos e, if_pos (by omega), hx, e, show b + j - b = j by omega]
  · rw [if_neg e]; by_cases e2 : b ≤ t ∧ t < b + j
    · rw [if_pos e2, if_pos (by omega)]
    · rw [if_neg e2, if_neg (by omega)]
theorem seg_0 {α : Type} (I : Nat → Nat → α) (q b : Nat) (f : Nat → α) : I = va_up I q (fun t => if b ≤ t ∧ t < b + 0 then f (t - b) else I q t) := by
  conv => lhs; rw [← up_self I q]
  congr 1; funext t; rw [if_neg (by omega)]
set_option maxHeartbeats 4000000 in
set_option maxRecDepth 100000 in
theorem ok_X11_hashes {l : Launch} {a0 : Nat} {D : va_G} {sa : Nat → Nat} {T : Nat → Option hKd} {I : Nat → Nat → Int32} {L : Nat → Nat → Int64} {R : Nat → Nat → Option Nat} {A : Nat → Nat} (mO : isM T R A a0) (n u nu p : Nat) (hn : I 63 1 = nI n) (hn4 : n ≤ 400) (h4 : ∀ t, t < 8 → I 4 t = fSha t) (h5 : ∀ t, t < 64 → I 5 t = kSha t) (hTu : T u = some (.inl (.int, nu))) (hu0 : a0 ≤ A u) (hp : p + 32 ≤ nu) (hnu : nu < 2 ^ 31) (hu : u ≠ 2 ∧ u ≠ 3) : hM l a0 D sa yX11_hashes cX11_hashes 5 none { frames := 2, cells := 0, slots := 0, locals := 55 } [.ref (A 63), .ref (A u), .int (nI p)] (T, I, L, R, A) (fun r G' => r = none ∧ ∃ I', G' = (T, I', L, R, A) ∧ I' u = (fun j => if p ≤ j ∧ j < p + 32 then shaH (I 0) n (j - p) else I u j) ∧ ∀ q, q ≠ 2 → q ≠ 3 → q ≠ u → I' q = I q) := by
  refine hM.of (by decide +kernel) (Nat.le_of_ble_eq_true rfl) ?_
  intro z hl h0 hD hS hN C E
  subst hl; subst h0; subst hD; subst hS
  have C : hC z RX11 cX11_hashes := C
  have hZ := E.2.2.2.1
  show hX z 0 0 (T, I, L, R, A) [(0, .ref (A 63)), (1, .ref (A u)), (2, .int (nI p))] 0 []
  have hp2 : pall n ≤ n + 72 := by unfold pall; omega
  have hp3 := pall_ge n
  have hp4 := pall64 n
  refine x_aload_n C dX11_hashes_0 0 rfl rfl ?_
  refine x_getiN C fl_X11_255 mO.1 rfl dX11_hashes_1 ?_
  refine x_eqi (y := nI n) hn ?_
  refine x_bipush (v := nI 8) C dX11_hashes_4 (by decide +kernel) ?_
  refine x_iaddN C dX11_hashes_6 ?_
  refine x_bipush (v := nI 64) C dX11_hashes_7 (by decide +kernel) ?_
  refine x_idivN C (by omega) (by omega) (by omega) dX11_hashes_9 ?_
  refine x_bipush (v := nI 64) C dX11_hashes_10 (by decide +kernel) ?_
  refine x_imulN C dX11_hashes_12 ?_
  refine x_bipush (v := nI 64) C dX11_hashes_13 (by decide +kernel) ?_
  refine x_iaddN C dX11_hashes_15 ?_
  refine x_eqi (y := nI (pall n)) rfl ?_
  refine x_istore_n (lv' := [(3, .int (nI (pall n))), (0, .ref (A 63)), (1, .ref (A u)), (2, .int (nI p))]) C dX11_hashes_16 rfl (Nat.lt_of_lt_of_eq (by decide) hN.symm) rfl ?_
  refine x_iconst (v := nI 0) C dX11_hashes_17 (by decide +kernel) ?_
  refine x_istore (lv' := [(4, .int (nI 0)), (3, .int (nI (pall n))), (0, .ref (A 63)), (1, .ref (A u)), (2, .int (nI p))]) C dX11_hashes_18 (Nat.lt_of_lt_of_eq (by decide) hN.symm) rfl ?_
  have L20 : ∀ (f : Nat) (k : Nat) (J : Nat → Nat → Int32), 8 - k < f → (k ≤ 8) → (J = va_up I 2 (fun x => if x < k then fSha x else I 2 x)) → hX z 0 0 (T, J, L, R, A) [(4, .int (nI k)), (3, .int (nI (pall n))), (0, .ref (A 63)), (1, .ref (A u)), (2, .int (nI p))] 20 [] := by
    intro f
    induction f with
    | zero => intro k J hmz; exact absurd hmz (Nat.not_lt_zero _)
    | succ f ih20 =>
      intro k J hmz hk hJ
      refine x_iload C dX11_hashes_20 0 rfl ?_
      refine x_bipush (v := nI 8) C dX11_hashes_22 (by decide +kernel) ?_
      refine x_icmp_geN (tgt := 47) C (by omega) (by omega) dX11_hashes_24 (by decide) (fun c24 => ?_) (fun c24 => ?_)
      · refine x_iconst (v := nI 0) C dX11_hashes_47 (by decide +kernel) ?_
        refine x_istore (lv' := [(4, .int (nI 0)), (3, .int (nI (pall n))), (0, .ref (A 63)), (1, .ref (A u)), (2, .int (nI p))]) C dX11_hashes_48 (Nat.lt_of_lt_of_eq (by decide) hN.symm) rfl ?_
        have L50 : ∀ (f : Nat) (fr : Nat) (K : Nat → Nat → Int32), pall n - fr < f → (fr ≤ pall n) → (fr % 64 = 0) → (∀ j, j < 8 → K 2 j = shaS (padF (I 0) n) (fr / 64) j) → ((∀ q, q ≠ 2 → q ≠ 3 → K q = I q)) → hX z 0 0 (T, K, L, R, A) [(4, .int (nI fr)), (3, .int (nI (pall n))), (0, .ref (A 63)), (1, .ref (A u)), (2, .int (nI p))] 50 [] := by
          intro f
          induction f with
          | zero => intro fr K hmz; exact absurd hmz (Nat.not_lt_zero _)
          | succ f ih50 =>
            intro fr K hmz hf hf2 hS hK
            refine x_iload C dX11_hashes_50 0 rfl ?_
            refine x_iload_n C dX11_hashes_52 1 rfl rfl ?_
            refine x_icmp_geN (tgt := 69) C (by omega) (by omega) dX11_hashes_53 (by decide) (fun c53 => ?_) (fun c53 => ?_)
            · refine x_iconst (v := nI 0) C dX11_hashes_69 (by decide +kernel) ?_
              refine x_istore (lv' := [(4, .int (nI 0)), (3, .int (nI (pall n))), (0, .ref (A 63)), (1, .ref (A u)), (2, .int (nI p))]) C dX11_hashes_70 (Nat.lt_of_lt_of_eq (by decide) hN.symm) rfl ?_
              have L72 : ∀ (f : Nat) (j : Nat) (M : Nat → Nat → Int32), 32 - j < f → (j ≤ 32) → (M = va_up K u (fun t => if p ≤ t ∧ t < p + j then shaH (I 0) n (t - p) else I u t)) → hX z 0 0 (T, M, L, R, A) [(4, .int (nI j)), (3, .int (nI (pall n))), (0, .ref (A 63)), (1, .ref (A u)), (2, .int (nI p))] 72 [] := by
                intro f
                induction f with
                | zero => intro j M hmz; exact absurd hmz (Nat.not_lt_zero _)
                | succ f ih72 =>
                  intro j M hmz hj hM2
                  refine x_iload C dX11_hashes_72 0 rfl ?_
                  refine x_bipush (v := nI 32) C dX11_hashes_74 (by decide +kernel) ?_
                  refine x_icmp_geN (tgt := 115) C (by omega) (by omega) dX11_hashes_76 (by decide) (fun c76 => ?_) (fun c76 => ?_)
                  · exact x_vret C E (Nat.le_of_ble_eq_true rfl) (Nat.le_of_ble_eq_true rfl) dX11_hashes_115 (⟨rfl, M, rfl, by rw [hM2, up_eq, show j = 32 by omega], fun q q2 q3 q4 => by rw [hM2, up_ne _ _ q4]; exact hK q q2 q3⟩)
                  · refine x_aload_n C dX11_hashes_79 3 rfl rfl ?_
                    refine x_iload_n C dX11_hashes_80 4 rfl rfl ?_
                    refine x_iload C dX11_hashes_81 0 rfl ?_
                    refine x_iaddN C dX11_hashes_83 ?_
                    refine x_aload_n C dX11_hashes_84 2 rfl rfl ?_
                    refine x_getrN C fl_X11_13 mO.1 rfl (mO.2.2 2 _ rfl).1 dX11_hashes_85 ?_
                    refine x_iload C dX11_hashes_88 0 rfl ?_
                    refine x_iconst (v := nI 4) C dX11_hashes_90 (by decide +kernel) ?_
                    refine x_idivN C (by omega) (by omega) (by omega) dX11_hashes_91 ?_
                    refine x_ialdN C (mO.2.2 2 _ rfl).2.1 (by omega) (by omega) dX11_hashes_92 ?_
                    refine x_bipush (v := nI 24) C dX11_hashes_93 (by decide +kernel) ?_
                    refine x_bipush (v := nI 8) C dX11_hashes_95 (by decide +kernel) ?_
                    refine x_iload C dX11_hashes_97 0 rfl ?_
                    refine x_iconst (v := nI 4) C dX11_hashes_99 (by decide +kernel) ?_
                    refine x_iremN C (by omega) (by omega) (by omega) dX11_hashes_100 ?_
                    refine x_imulN C dX11_hashes_101 ?_
                    refine x_isubN C (by omega) dX11_hashes_102 ?_
                    refine x_iushr C dX11_hashes_103 ?_
                    refine x_sipush (v := nI 255) C dX11_hashes_104 (by decide +kernel) ?_
                    refine x_iand C dX11_hashes_107 ?_
                    refine x_iastN C hTu hu0 (by omega) (by omega) dX11_hashes_108 (fun I1 eI1 => ?_)
                    refine x_iinc (v := nI (j + 1)) (lv' := [(4, .int (nI (j + 1))), (3, .int (nI (pall n))), (0, .ref (A 63)), (1, .ref (A u)), (2, .int (nI p))]) C dX11_hashes_109 0 rfl (nI_inc 1) (Nat.lt_of_lt_of_eq (by decide) hN.symm) rfl ?_
                    refine x_goto (tgt := 72) C dX11_hashes_112 (by decide) ?_
                    refine x_sub (lv' := _) [0, 1, 2, 3, 4] rfl ?_
                    exact ih72 (j + 1) I1 (by omega) (by omega) (by rw [eI1, hM2]; simp only [up_eq, up_up, up_ne _ _ (Ne.symm hu.1)]; exact congrArg (va_up K u) (by rw [upd_up]; exact seg_s (shaH (I 0) n) _ p (by rw [hS _ (by omega), show fr = pall n by omega]; rfl)))
              refine x_sub (lv' := _) [0, 1, 2, 3, 4] rfl ?_
              exact L72 _ 0 K (Nat.lt_succ_self _) (by omega) (by have := seg_0 K u p (shaH (I 0) n); rw [hK u hu.1 hu.2] at this; exact this)
            · refine x_aload_n C dX11_hashes_56 2 rfl rfl ?_
              refine x_iload C dX11_hashes_57 0 rfl ?_
              refine x_iload_n C dX11_hashes_59 1 rfl rfl ?_
              refine x_callV C (ok_X11_block mO n fr (pall n) (by rw [hK 63 (by decide) (by decide)]; exact hn) hn4 rfl (by omega) (fun t ht => by rw [hK 5 (by decide) (by decide)]; exact h5 t ht)) mv_X11_block ml_X11_266 mO.1 rfl rfl rfl (Nat.le_of_ble_eq_true rfl) (hrm (rm := { frames := 0, cells := 0, slots := 0, locals := 0 }) hZ ⟨Nat.le_of_ble_eq_true rfl, Nat.le_of_ble_eq_true rfl⟩) (hcs hZ ⟨Nat.le_of_ble_eq_true rfl, Nat.le_of_ble_eq_true rfl⟩) dX11_hashes_60 (fun v G' hp => ?_)
              obtain ⟨rfl, rfl⟩ := hp
              show hX z 0 0 (T, (va_up (va_up K 3 (sW (fun x => if x < 16 then wrd (padF (K 0) n) (fr + 4 * x) else K 3 x) 48)) 2 (shaB (K 2) (fun x => if x < 16 then wrd (padF (K 0) n) (fr + 4 * x) else K 3 x))), L, R, A) [(4, .int (nI fr)), (3, .int (nI (pall n))), (0, .ref (A 63)), (1, .ref (A u)), (2, .int (nI p))] 63 []
              refine x_iinc (v := nI (fr + 64)) (lv' := [(4, .int (nI (fr + 64))), (3, .int (nI (pall n))), (0, .ref (A 63)), (1, .ref (A u)), (2, .int (nI p))]) C dX11_hashes_63 0 rfl (nI_inc 64) (Nat.lt_of_lt_of_eq (by decide) hN.symm) rfl ?_
              refine x_goto (tgt := 50) C dX11_hashes_66 (by decide) ?_
              refine x_sub (lv' := _) [0, 1, 2, 3, 4] rfl ?_
              exact ih50 (fr + 64) (va_up (va_up K 3 (sW (fun x => if x < 16 then wrd (padF (K 0) n) (fr + 4 * x) else K 3 x) 48)) 2 (shaB (K 2) (fun x => if x < 16 then wrd (padF (K 0) n) (fr + 4 * x) else K 3 x))) (by omega) (by omega) (by omega) (fun j hj => by
              rw [up_eq, show (fr + 64) / 64 = fr / 64 + 1 by omega]
              exact shaB_congr hS (fun t ht => by rw [if_pos ht, hK 0 (by decide) (by decide), show 64 * (fr / 64) = fr by omega]) j hj) (fun q q2 q3 => by rw [up_ne _ _ q2, up_ne _ _ q3]; exact hK q q2 q3)
        refine x_sub (lv' := _) [0, 1, 2, 3, 4] rfl ?_
        exact L50 _ 0 J (Nat.lt_succ_self _) (by omega) (by omega) (fun j hj => by rw [hJ, up_eq, if_pos (by omega)]; rfl) (fun q q2 q3 => by rw [hJ, up_ne _ _ q2])
      · refine x_aload_n C dX11_hashes_27 2 rfl rfl ?_
        refine x_getrN C fl_X11_13 mO.1 rfl (mO.2.2 2 _ rfl).1 dX11_hashes_28 ?_
        refine x_iload C dX11_hashes_31 0 rfl ?_
        refine x_aload_n C dX11_hashes_33 2 rfl rfl ?_
        refine x_getrN C fl_X11_27 mO.1 rfl (mO.2.2 4 _ rfl).1 dX11_hashes_34 ?_
        refine x_iload C dX11_hashes_37 0 rfl ?_
        refine x_ialdN C (mO.2.2 4 _ rfl).2.1 (by omega) (by omega) dX11_hashes_39 ?_
        refine x_iastN C (mO.2.2 2 _ rfl).2.1 (mO.2.2 2 _ rfl).2.2 (by omega) (by omega) dX11_hashes_40 (fun I2 eI2 => ?_)
        refine x_iinc (v := nI (k + 1)) (lv' := [(4, .int (nI (k + 1))), (3, .int (nI (pall n))), (0, .ref (A 63)), (1, .ref (A u)), (2, .int (nI p))]) C dX11_hashes_41 0 rfl (nI_inc 1) (Nat.lt_of_lt_of_eq (by decide) hN.symm) rfl ?_
        refine x_goto (tgt := 20) C dX11_hashes_44 (by decide) ?_
        refine x_sub (lv' := _) [0, 1, 2, 3, 4] rfl ?_
        exact ih20 (k + 1) I2 (by omega) (by omega) (by rw [eI2, hJ]; simp only [up_eq, up_up, up_ne _ _ (show (4 : Nat) ≠ 2 by decide)]; exact congrArg (va_up I 2) (by rw [upd_up]; exact fill_s fSha _ (h4 k (by omega))))
  refine x_sub (lv' := _) [0, 1, 2, 3, 4] rfl ?_
  exact L20 _ 0 I (Nat.lt_succ_self _) (by omega) (fill_0 I 2 _)

set_option maxHeartbeats 4000000 in
set_option maxRecDepth 100000 in
theorem ok_X11_lays {l : Launch} {a0 : Nat} {D : va_G} {sa : Nat → Nat} {T : Nat → Option hKd} {I : Nat → Nat → Int32} {L : Nat → Nat → Int64} {R : Nat → Nat → Option Nat} {A : Nat → Nat} (mO : isM T R A a0) (x nx p n b : Nat) (hb : I 63 1 = nI b) (hTx : T x = some (.inl (.int, nx))) (hnx : nx < 2 ^ 31) (hp : p + n ≤ nx) (hbn : b + n ≤ 400) (hx : x ≠ 0) : hM l a0 D sa yX11_lays cX11_lays 4 none { frames := 1, cells := 0, slots := 0, locals := 25 } [.ref (A 63), .ref (A x), .int (nI p), .int (nI n)] (T, I, L, R, A) (fun r G' => r = none ∧ G' = (T, va_up (va_up I 0 (fun j => if b ≤ j ∧ j < b + n then I x (p + (j - b)) else I 0 j)) 63 (upd (I 63) 1 (nI (b + n))), L, R, A)) := by
  refine hM.of (by decide +kernel) (Nat.le_of_ble_eq_true rfl) ?_
  intro z hl h0 hD hS hN C E
  subst hl; subst h0; subst hD; subst hS
  have C : hC z RX11 cX11_lays := C
  have hZ := E.2.2.2.1
  show hX z 0 0 (T, I, L, R, A) [(0, .ref (A 63)), (1, .ref (A x)), (2, .int (nI p)), (3, .int (nI n))] 0 []
  refine x_aload_n C dX11_lays_0 1 rfl rfl ?_
  refine x_iload_n C dX11_lays_1 2 rfl rfl ?_
  refine x_aload_n C dX11_lays_2 0 rfl rfl ?_
  refine x_getrN C fl_X11_7 mO.1 rfl (mO.2.2 0 _ rfl).1 dX11_lays_3 ?_
  refine x_aload_n C dX11_lays_6 0 rfl rfl ?_
  refine x_getiN C fl_X11_255 mO.1 rfl dX11_lays_7 ?_
  refine x_eqi (y := nI b) hb ?_
  refine x_iload_n C dX11_lays_10 3 rfl rfl ?_
  refine x_callS C (ok_X11_copy x 0 p b n nx 400 hTx (mO.2.2 0 _ rfl).2.1 (mO.2.2 0 _ rfl).2.2 hp hbn hnx (by decide) (fun e => absurd e hx)) ms_X11_copy ml_X11_270 rfl rfl (Nat.le_of_ble_eq_true rfl) (hrm (rm := { frames := 0, cells := 0, slots := 0, locals := 0 }) hZ ⟨Nat.le_of_ble_eq_true rfl, Nat.le_of_ble_eq_true rfl⟩) (hcs hZ ⟨Nat.le_of_ble_eq_true rfl, Nat.le_of_ble_eq_true rfl⟩) dX11_lays_11 (fun v G' hp => ?_)
  obtain ⟨rfl, rfl⟩ := hp
  show hX z 0 0 (T, (va_up I 0 (fun j => if b ≤ j ∧ j < b + n then I x (p + (j - b)) else I 0 j)), L, R, A) [(0, .ref (A 63)), (1, .ref (A x)), (2, .int (nI p)), (3, .int (nI n))] 14 []
  refine x_aload_n C dX11_lays_14 0 rfl rfl ?_
  refine x_dup C dX11_lays_15 rfl ?_
  refine x_getiN C fl_X11_255 mO.1 rfl dX11_lays_16 ?_
  refine x_eqi (y := nI b) (by rw [up_ne _ _ (by decide)]; exact hb) ?_
  refine x_iload_n C dX11_lays_19 3 rfl rfl ?_
  refine x_iaddN C dX11_lays_20 ?_
  refine x_putiN C fl_X11_255 mO.1 mO.2.1 rfl dX11_lays_21 (fun I1 eI1 => ?_)
  exact x_vret C E (Nat.le_of_ble_eq_true rfl) (Nat.le_of_ble_eq_true rfl) dX11_lays_24 (⟨rfl, by rw [eI1, up_ne _ _ (by decide)]⟩)

