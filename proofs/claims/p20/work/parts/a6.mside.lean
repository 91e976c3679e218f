/-! ===== the model: side, again ===== -/
theorem ok_X11_begins {l : Launch} {a0 : Nat} {D : va_G} {sa : Nat → Nat} {T : Nat → Option hKd} {I : Nat → Nat → Int32} {L : Nat → Nat → Int64} {R : Nat → Nat → Option Nat} {A : Nat → Nat} (mO : isM T R A a0) (hc : shC I) (s : Nat) (hs5 : s < 5) (h13 : h13Z I) (σ : sgT) (dn : Bool) (hE : mdE σ I s dn) (p : Nat) (hp34 : I 34 s = nI p) (hp8 : p < 8) (kn : Nat → Bool) (hkn : ∀ h, h < 2 → I 25 (2 * p + h) = bI (kn h)) (ha : Nat) (hha : I 35 s = nI ha) (ha2 : ha < 2) (sec pub told : Nat → Int32) (hsec : mR I 51 s sec) (ov : Int32) (hov : I 37 s = ov) (hk1 : kn ha = true → ∀ j, j < 32 → pub j = pubF sec j) (hk2 : kn (1 - ha) = true → ov ≠ -1) (htold : ov ≠ -1 → ∀ j, j < 32 → told j = pubF (secF ov (nI 0)) j) : hM l a0 D sa yX11_begins cX11_begins 3 none { frames := 5, cells := 0, slots := 0, locals := 122 } [.ref (A 63), .int (nI s)] (T, I, L, R, A) (fun r G' => r = none ∧ ∃ I' L', G' = (T, I', L', R, A) ∧ mdE (opB kn ha pub told (decide (ov ≠ -1)) σ) I' s false ∧ mF 5 s I I' ∧ I' 57 = I 57 ∧ I' 59 = I 59) := by
  by_cases hno : ov = -1
  · exact ok0_X11_begins mO hc s hs5 h13 σ dn hE p hp34 hp8 kn hkn ha hha ha2 sec pub told hsec ov hov hk1 hk2 htold hno
  · exact ok1_X11_begins mO hc s hs5 h13 σ dn hE p hp34 hp8 kn hkn ha hha ha2 sec pub told hsec ov hov hk1 hk2 htold hno
theorem mdE.k {s : Nat} {σ : sgT} {I J : Nat → Nat → Int32} {dn : Bool}  (h : mdE σ I s dn)  (g39 : J 39 s = σ 7 12) (o : ∀ q, 39 ≤ q → q ≤ 54 → q ≠ 39 → J q = I q) : mdE σ J s dn := by
  obtain ⟨h1, h2, h3, h4, h5, h6, h7, ⟨q1, q2, q3, q4, q5, q6⟩, h9, h10⟩ := h
  exact ⟨h1.o (o 47 (by decide) (by decide) (by decide)), h2.o (o 48 (by decide) (by decide) (by decide)), h3.o (o 49 (by decide) (by decide) (by decide)), h4.o (o 50 (by decide) (by decide) (by decide)), h5.o (o 52 (by decide) (by decide) (by decide)), h6.o (o 54 (by decide) (by decide) (by decide)), fun e => (h7 e).o (o 53 (by decide) (by decide) (by decide)), ⟨by rw [o 42 (by decide) (by decide) (by decide)]; exact q1, by rw [o 45 (by decide) (by decide) (by decide)]; exact q2, by rw [o 46 (by decide) (by decide) (by decide)]; exact q3, by rw [o 43 (by decide) (by decide) (by decide)]; exact q4, g39, by rw [o 40 (by decide) (by decide) (by decide)]; exact q6⟩, fun e => by rw [o 44 (by decide) (by decide) (by decide)]; exact h9 e, by rw [o 41 (by decide) (by decide) (by decide)]; exact h10⟩
set_option maxHeartbeats 4000000 in
set_option maxRecDepth 100000 in
theorem ok_X11_again {l : Launch} {a0 : Nat} {D : va_G} {sa : Nat → Nat} {T : Nat → Option hKd} {I : Nat → Nat → Int32} {L : Nat → Nat → Int64} {R : Nat → Nat → Option Nat} {A : Nat → Nat} (ns : Nat) (hns : I 63 33 = nI ns) (hn4 : ns ≤ 4) (mO : isM T R A a0) (hc : shC I) (s : Nat) (hs : s < ns) (h13 : h13Z I) (σ : sgT) (dn : Bool) (hE : mdE σ I s dn) (p : Nat) (hp34 : I 34 s = nI p) (hp8 : p < 8) (kn : Nat → Bool) (hkn : ∀ h, h < 2 → I 25 (2 * p + h) = bI (kn h)) (ha : Nat) (hha : I 35 s = nI ha) (ha2 : ha < 2) (sec pub told : Nat → Int32) (hsec : mR I 51 s sec) (ov : Int32) (hov : I 37 s = ov) (hk1 : kn ha = true → ∀ j, j < 32 → pub j = pubF sec j) (hk2 : kn (1 - ha) = true → ov ≠ -1) (htold : ov ≠ -1 → ∀ j, j < 32 → told j = pubF (secF ov (nI 0)) j) (nx : Nat) (hnx : σ 7 13 = nI nx) : hM l a0 D sa yX11_again cX11_again 3 (some .int) { frames := 6, cells := 0, slots := 0, locals := 144 } [.ref (A 63), .int (nI s)] (T, I, L, R, A) (fun r G' => r = some (.int (nI nx)) ∧ ∃ I' L', G' = (T, I', L', R, A) ∧ mdE (opB kn ha pub told (decide (ov ≠ -1)) σ) I' s false ∧ mF 5 s I I' ∧ I' 57 = I 57 ∧ I' 59 = I 59) := by
  refine hM.of (by decide +kernel) (Nat.le_of_ble_eq_true rfl) ?_
  intro z hl h0 hD hS hN C E
  subst hl; subst h0; subst hD; subst hS
  have C : hC z RX11 cX11_again := C
  have hZ := E.2.2.2.1
  show hX z 0 0 (T, I, L, R, A) [(0, .ref (A 63)), (1, .int (nI s))] 0 []
  have hs5 : s < 5 := by omega
  refine x_aload_n C dX11_again_0 0 rfl rfl ?_
  refine x_iload_n C dX11_again_1 1 rfl rfl ?_
  refine x_callV C (ok_X11_isSide mO ns hns hn4 s hs) mv_X11_isSide ml_X11_415 mO.1 rfl rfl rfl (Nat.le_of_ble_eq_true rfl) (hrm (rm := { frames := 0, cells := 0, slots := 0, locals := 0 }) hZ ⟨Nat.le_of_ble_eq_true rfl, Nat.le_of_ble_eq_true rfl⟩) (hcs hZ ⟨Nat.le_of_ble_eq_true rfl, Nat.le_of_ble_eq_true rfl⟩) dX11_again_2 (fun v G' hp => ?_)
  obtain ⟨rfl, rfl⟩ := hp
  show hX z 0 0 (T, I, L, R, A) [(0, .ref (A 63)), (1, .int (nI s))] 5 [.int (nI 1)]
  refine x_if_neN (tgt := 11) C (by omega) dX11_again_5 (by decide) (fun c5 => ?_) (fun c5 => absurd c5 (by omega))
  refine x_aload_n C dX11_again_11 0 rfl rfl ?_
  refine x_getrN C fl_X11_195 mO.1 rfl (mO.2.2 40 _ rfl).1 dX11_again_12 ?_
  refine x_iload_n C dX11_again_15 1 rfl rfl ?_
  refine x_ialdN C (mO.2.2 40 _ rfl).2.1 (by omega) (by omega) dX11_again_16 ?_
  refine x_eqi (y := nI nx) (hE.2.2.2.2.2.2.2.1.2.2.2.2.2.trans hnx) ?_
  refine x_istore_n (lv' := [(2, .int (nI nx)), (0, .ref (A 63)), (1, .int (nI s))]) C dX11_again_17 rfl (Nat.lt_of_lt_of_eq (by decide) hN.symm) rfl ?_
  refine x_aload_n C dX11_again_18 1 rfl rfl ?_
  refine x_iload_n C dX11_again_19 2 rfl rfl ?_
  refine x_callV C (ok_X11_begins mO hc s hs5 h13 σ dn hE p hp34 hp8 kn hkn ha hha ha2 sec pub told hsec ov hov hk1 hk2 htold) mv_X11_begins ml_X11_412 mO.1 rfl rfl rfl (Nat.le_of_ble_eq_true rfl) (hrm (rm := { frames := 0, cells := 0, slots := 0, locals := 0 }) hZ ⟨Nat.le_of_ble_eq_true rfl, Nat.le_of_ble_eq_true rfl⟩) (hcs hZ ⟨Nat.le_of_ble_eq_true rfl, Nat.le_of_ble_eq_true rfl⟩) dX11_again_20 (fun v G' hp => ?_)
  obtain ⟨rfl, J1, K1, rfl, b1, b2, b3, b4⟩ := hp
  show hX z 0 0 (T, J1, K1, R, A) [(2, .int (nI nx)), (0, .ref (A 63)), (1, .int (nI s))] 23 []
  refine x_iload_n C dX11_again_23 0 rfl rfl ?_
  exact x_iret C E (Nat.le_of_ble_eq_true rfl) (Nat.le_of_ble_eq_true rfl) dX11_again_24 (⟨rfl, J1, K1, rfl, b1, b2, b3, b4⟩)

def sndS (ms : Nat) (sz : Nat → Nat) (tk : Nat → Nat → Nat) (hd : Nat) : Prop := ∃ m k, m < ms ∧ m % 2 = hd ∧ k < sz m ∧ tk m k = 1
def noC (kn : Nat → Bool) (ms : Nat) (sz : Nat → Nat) (tk : Nat → Nat → Nat) (hd : Nat) (sv ov : Int32) (f : Nat) : Prop := f ≠ 0 ∨ (sv = -1 ∧ (kn hd = true ∨ sndS ms sz tk hd)) ∨ (ov = -1 ∧ kn (1 - hd) = true)
theorem noC_n {kn : Nat → Bool} {ms : Nat} {sz : Nat → Nat} {tk : Nat → Nat → Nat} {hd : Nat} {sv ov : Int32} {f : Nat} (h0 : f = 0) (h1 : sv = -1 → ¬ (kn hd = true ∨ sndS ms sz tk hd)) (h2 : ov = -1 → ¬ kn (1 - hd) = true) : ¬ noC kn ms sz tk hd sv ov f := by
  rintro (h | ⟨h, h3⟩ | ⟨h, h3⟩)
  · exact h h0
  · exact h1 h h3
  · exact h2 h h3
theorem wb_F {a : Bool} {P : Prop} {q : Bool} (e1 : a = false) (e2 : q = false) (hq : q = true ↔ P) : false = true ↔ (a = true ∨ P) := by
  subst e1; subst e2
  constructor
  · intro h; cases h
  · rintro (h | h)
    · cases h
    · exact hq.mpr h
def mFs (n : Nat) (I J : Nat → Nat → Int32) : Prop := (∀ q, q ∉ mML → q ∉ [29, 30, 31, 32, 34, 35, 36, 37, 38, 51] → q ≠ 63 → J q = I q) ∧ (∀ j, j ≠ 1 → j ≠ 33 → J 63 j = I 63 j) ∧ (h13Z I → h13Z J) ∧ (∀ q, 39 ≤ q → q ≤ 54 → q ≠ 51 → sdO 5 n I J q) ∧ (∀ q, 34 ≤ q → q ≤ 38 → ∀ t, t ≠ n → J q t = I q t) ∧ ∀ i, ¬ (32 * n ≤ i ∧ i < 32 * n + 32) → J 51 i = I 51 i
theorem sd_bad {hv sv ov : Int32} (h : (hv < 0 ∨ nI 1 < hv) ∨ sv < -1 ∨ ov < -1) (h1 : nI 0 ≤ hv ∧ hv ≤ nI 1) (h2 : ¬ sv < -1) (h3 : -1 ≤ ov) : False := by
  rcases h with (h | h) | h | h
  · have := h1.1; rw [nI_0] at this; exact absurd h (Int32.not_lt.mpr this)
  · exact absurd h (Int32.not_lt.mpr h1.2)
  · exact h2 h
  · exact absurd h (Int32.not_lt.mpr h3)
set_option maxHeartbeats 4000000 in
set_option maxRecDepth 100000 in
theorem bn_X11_side {l : Launch} {a0 : Nat} {D : va_G} {sa : Nat → Nat} {T : Nat → Option hKd} {I : Nat → Nat → Int32} {L : Nat → Nat → Int64} {R : Nat → Nat → Option Nat} {A : Nat → Nat} (ns : Nat) (hns : I 63 33 = nI ns) (hn4 : ns ≤ 4) (np : Nat) (hnp : I 63 24 = nI np) (hn8 : np ≤ 8) (mO : isM T R A a0) (hc : shC I) (h13 : h13Z I) (p : Nat) (hpn : p < np) (kn : Nat → Bool) (ms : Nat) (sz : Nat → Nat) (tk : Nat → Nat → Nat) (hp : mdP I p kn ms sz tk) (hv sv ov ev : Int32) (hbad : (hv < 0 ∨ nI 1 < hv) ∨ sv < -1 ∨ ov < -1) : hM l a0 D sa yX11_side cX11_side 8 (some .int) { frames := 2, cells := 0, slots := 0, locals := 43 } [.ref (A 63), .int (nI p), .int hv, .int sv, .int ov, .int ev] (T, I, L, R, A) (fun r G' => r = some (.int (-2)) ∧ G' = (T, I, L, R, A)) := by
  refine hM.of (by decide +kernel) (Nat.le_of_ble_eq_true rfl) ?_
  intro z hl h0 hD hS hN C E
  subst hl; subst h0; subst hD; subst hS
  have C : hC z RX11 cX11_side := C
  have hZ := E.2.2.2.1
  show hX z 0 0 (T, I, L, R, A) [(0, .ref (A 63)), (1, .int (nI p)), (2, .int hv), (3, .int sv), (4, .int ov), (5, .int ev)] 0 []
  refine x_aload_n C dX11_side_0 0 rfl rfl ?_
  refine x_iload_n C dX11_side_1 1 rfl rfl ?_
  refine x_callV C (ok_X11_isPattern mO np hnp hn8 p hpn) mv_X11_isPattern ml_X11_373 mO.1 rfl rfl rfl (Nat.le_of_ble_eq_true rfl) (hrm (rm := { frames := 0, cells := 0, slots := 0, locals := 0 }) hZ ⟨Nat.le_of_ble_eq_true rfl, Nat.le_of_ble_eq_true rfl⟩) (hcs hZ ⟨Nat.le_of_ble_eq_true rfl, Nat.le_of_ble_eq_true rfl⟩) dX11_side_2 (fun v G' hp => ?_)
  obtain ⟨rfl, rfl⟩ := hp
  show hX z 0 0 (T, I, L, R, A) [(0, .ref (A 63)), (1, .int (nI p)), (2, .int hv), (3, .int sv), (4, .int ov), (5, .int ev)] 5 [.int (nI 1)]
  refine x_if_eqN (tgt := 28) C (by omega) dX11_side_5 (by decide) (fun c5 => absurd c5 (by omega)) (fun c5 => ?_)
  refine x_iload_n C dX11_side_8 2 rfl rfl ?_
  refine x_iconst (v := nI 0) C dX11_side_9 (by decide +kernel) ?_
  refine x_iconst (v := nI 1) C dX11_side_10 (by decide +kernel) ?_
  refine x_callS C (ok_X11_in hv (nI 0) (nI 1)) ms_X11_in ml_X11_366 rfl rfl (Nat.le_of_ble_eq_true rfl) (hrm (rm := { frames := 0, cells := 0, slots := 0, locals := 0 }) hZ ⟨Nat.le_of_ble_eq_true rfl, Nat.le_of_ble_eq_true rfl⟩) (hcs hZ ⟨Nat.le_of_ble_eq_true rfl, Nat.le_of_ble_eq_true rfl⟩) dX11_side_11 (fun v G' hp => ?_)
  obtain ⟨rfl, rfl⟩ := hp
  show hX z 0 0 (T, I, L, R, A) [(0, .ref (A 63)), (1, .int (nI p)), (2, .int hv), (3, .int sv), (4, .int ov), (5, .int ev)] 14 [.int (bI (decide (nI 0 ≤ hv ∧ hv ≤ nI 1)))]
  refine x_if_eq (tgt := 28) C dX11_side_14 (by decide) (fun c14 => ?_) (fun c14 => ?_)
  · refine x_bipush (v := (-2)) C dX11_side_28 (by decide +kernel) ?_
    exact x_iret C E (Nat.le_of_ble_eq_true rfl) (Nat.le_of_ble_eq_true rfl) dX11_side_30 (⟨rfl, rfl⟩)
  · refine x_iload_n C dX11_side_17 3 rfl rfl ?_
    refine x_iconst (v := (-1)) C dX11_side_18 (by decide +kernel) ?_
    refine x_icmp_lt (tgt := 28) C dX11_side_19 (by decide) (fun c19 => ?_) (fun c19 => ?_)
    · refine x_bipush (v := (-2)) C dX11_side_28 (by decide +kernel) ?_
      exact x_iret C E (Nat.le_of_ble_eq_true rfl) (Nat.le_of_ble_eq_true rfl) dX11_side_30 (⟨rfl, rfl⟩)
    · refine x_iload C dX11_side_22 4 rfl ?_
      refine x_iconst (v := (-1)) C dX11_side_24 (by decide +kernel) ?_
      refine x_icmp_ge (tgt := 31) C dX11_side_25 (by decide) (fun c25 => ?_) (fun c25 => ?_)
      · exact (sd_bad hbad (of_decide_eq_true (bI_T c14)) c19 c25).elim
      · refine x_bipush (v := (-2)) C dX11_side_28 (by decide +kernel) ?_
        exact x_iret C E (Nat.le_of_ble_eq_true rfl) (Nat.le_of_ble_eq_true rfl) dX11_side_30 (⟨rfl, rfl⟩)

set_option maxHeartbeats 4000000 in
set_option maxRecDepth 100000 in
theorem ok1_X11_side {l : Launch} {a0 : Nat} {D : va_G} {sa : Nat → Nat} {T : Nat → Option hKd} {I : Nat → Nat → Int32} {L : Nat → Nat → Int64} {R : Nat → Nat → Option Nat} {A : Nat → Nat} (ns : Nat) (hns : I 63 33 = nI ns) (hn4 : ns ≤ 4) (np : Nat) (hnp : I 63 24 = nI np) (hn8 : np ≤ 8) (mO : isM T R A a0) (hc : shC I) (h13 : h13Z I) (p : Nat) (hpn : p < np) (kn : Nat → Bool) (ms : Nat) (sz : Nat → Nat) (tk : Nat → Nat → Nat) (hp : mdP I p kn ms sz tk) (hd : Nat) (hh : hd < 2) (sv ov ev : Int32) (hsv0 : -1 ≤ sv) (hov0 : -1 ≤ ov) (σ : sgT) (dn : Bool) (hE : ns < 4 → mdE σ I ns dn) (hσ12 : σ 7 12 = nI 0) (pub told : Nat → Int32) (hpub : sv ≠ -1 → ∀ j, j < 32 → pub j = pubF (secF sv (nI 0)) j) (htold : ov ≠ -1 → ∀ j, j < 32 → told j = pubF (secF ov (nI 0)) j) (hsv : sv ≠ -1) : hM l a0 D sa yX11_side cX11_side 8 (some .int) { frames := 6, cells := 0, slots := 0, locals := 144 } [.ref (A 63), .int (nI p), .int (nI hd), .int sv, .int ov, .int ev] (T, I, L, R, A) (fun r G' => ∃ f, isF kn ms sz tk f ∧ ((noC kn ms sz tk hd sv ov f ∧ r = some (.int (-3)) ∧ ∃ I', G' = (T, I', L, R, A) ∧ fx [29, 30, 31, 32] I I') ∨ (¬ noC kn ms sz tk hd sv ov f ∧ ns = 4 ∧ r = some (.int (-4)) ∧ ∃ I', G' = (T, I', L, R, A) ∧ fx [29, 30, 31, 32] I I') ∨ (¬ noC kn ms sz tk hd sv ov f ∧ ns < 4 ∧ r = some (.int (nI ns)) ∧ ∃ I' L', G' = (T, I', L', R, A) ∧ mdE (opB kn hd pub told (decide (ov ≠ -1)) σ) I' ns false ∧ I' 34 ns = nI p ∧ I' 35 ns = nI hd ∧ I' 37 ns = ov ∧ I' 38 ns = ev ∧ mR I' 51 ns (secF sv (nI 0)) ∧ I' 63 33 = nI (ns + 1) ∧ mFs ns I I' ∧ I' 57 = I 57 ∧ I' 59 = I 59))) := by
  refine hM.of (by decide +kernel) (Nat.le_of_ble_eq_true rfl) ?_
  intro z hl h0 hD hS hN C E
  subst hl; subst h0; subst hD; subst hS
  have C : hC z RX11 cX11_side := C
  have hZ := E.2.2.2.1
  show hX z 0 0 (T, I, L, R, A) [(0, .ref (A 63)), (1, .int (nI p)), (2, .int (nI hd)), (3, .int sv), (4, .int ov), (5, .int ev)] 0 []
  have hp8 : p < 8 := by omega
  refine x_aload_n C dX11_side_0 0 rfl rfl ?_
  refine x_iload_n C dX11_side_1 1 rfl rfl ?_
  refine x_callV C (ok_X11_isPattern mO np hnp hn8 p hpn) mv_X11_isPattern ml_X11_373 mO.1 rfl rfl rfl (Nat.le_of_ble_eq_true rfl) (hrm (rm := { frames := 0, cells := 0, slots := 0, locals := 0 }) hZ ⟨Nat.le_of_ble_eq_true rfl, Nat.le_of_ble_eq_true rfl⟩) (hcs hZ ⟨Nat.le_of_ble_eq_true rfl, Nat.le_of_ble_eq_true rfl⟩) dX11_side_2 (fun v G' hp => ?_)
  obtain ⟨rfl, rfl⟩ := hp
  show hX z 0 0 (T, I, L, R, A) [(0, .ref (A 63)), (1, .int (nI p)), (2, .int (nI hd)), (3, .int sv), (4, .int ov), (5, .int ev)] 5 [.int (nI 1)]
  refine x_if_eqN (tgt := 28) C (by omega) dX11_side_5 (by decide) (fun c5 => absurd c5 (by omega)) (fun c5 => ?_)
  refine x_iload_n C dX11_side_8 2 rfl rfl ?_
  refine x_iconst (v := nI 0) C dX11_side_9 (by decide +kernel) ?_
  refine x_iconst (v := nI 1) C dX11_side_10 (by decide +kernel) ?_
  refine x_callS C (ok_X11_in (nI hd) (nI 0) (nI 1)) ms_X11_in ml_X11_366 rfl rfl (Nat.le_of_ble_eq_true rfl) (hrm (rm := { frames := 0, cells := 0, slots := 0, locals := 0 }) hZ ⟨Nat.le_of_ble_eq_true rfl, Nat.le_of_ble_eq_true rfl⟩) (hcs hZ ⟨Nat.le_of_ble_eq_true rfl, Nat.le_of_ble_eq_true rfl⟩) dX11_side_11 (fun v G' hp => ?_)
  obtain ⟨rfl, rfl⟩ := hp
  show hX z 0 0 (T, I, L, R, A) [(0, .ref (A 63)), (1, .int (nI p)), (2, .int (nI hd)), (3, .int sv), (4, .int ov), (5, .int ev)] 14 [.int (bI (decide (nI 0 ≤ nI hd ∧ nI hd ≤ nI 1)))]
  refine x_eqi (y := nI 1) (by rw [decide_eq_true (show nI 0 ≤ nI hd ∧ nI hd ≤ nI 1 from ⟨(nI_leI (by decide) (by omega)).mpr (Nat.zero_le _), (nI_leI (by omega) (by decide)).mpr (by omega)⟩)]; rfl) ?_
  refine x_if_eqN (tgt := 28) C (by omega) dX11_side_14 (by decide) (fun c14 => absurd c14 (by omega)) (fun c14 => ?_)
  refine x_iload_n C dX11_side_17 3 rfl rfl ?_
  refine x_iconst (v := (-1)) C dX11_side_18 (by decide +kernel) ?_
  refine x_icmp_lt (tgt := 28) C dX11_side_19 (by decide) (fun c19 => absurd c19 (by exact Int32.not_lt.mpr hsv0)) (fun c19 => ?_)
  refine x_iload C dX11_side_22 4 rfl ?_
  refine x_iconst (v := (-1)) C dX11_side_24 (by decide +kernel) ?_
  refine x_icmp_ge (tgt := 31) C dX11_side_25 (by decide) (fun c25 => ?_) (fun c25 => absurd c25 (by exact fun h => h hov0))
  have J58 : ∀ (wb : Bool), (wb = true ↔ (kn hd = true ∨ sndS ms sz tk hd)) → hX z 0 0 (T, I, L, R, A) [(0, .ref (A 63)), (1, .int (nI p)), (2, .int (nI hd)), (3, .int sv), (4, .int ov), (5, .int ev)] 58 [.int (bI wb)] := by
    intro wb hwb
    refine x_istore (lv' := [(6, .int (bI wb)), (0, .ref (A 63)), (1, .int (nI p)), (2, .int (nI hd)), (3, .int sv), (4, .int ov), (5, .int ev)]) C dX11_side_58 (Nat.lt_of_lt_of_eq (by decide) hN.symm) rfl ?_
    refine x_aload_n C dX11_side_60 1 rfl rfl ?_
    refine x_iload_n C dX11_side_61 2 rfl rfl ?_
    refine x_callV C (ok_X11_faultOf mO p hp8 kn ms sz tk hp) mv_X11_faultOf ml_X11_386 mO.1 rfl rfl rfl (Nat.le_of_ble_eq_true rfl) (hrm (rm := { frames := 0, cells := 0, slots := 0, locals := 0 }) hZ ⟨Nat.le_of_ble_eq_true rfl, Nat.le_of_ble_eq_true rfl⟩) (hcs hZ ⟨Nat.le_of_ble_eq_true rfl, Nat.le_of_ble_eq_true rfl⟩) dX11_side_62 (fun v G' hp => ?_)
    obtain ⟨⟨f, rfl, f1, f2⟩, J, rfl, j1⟩ := hp
    show hX z 0 0 (T, J, L, R, A) [(6, .int (bI wb)), (0, .ref (A 63)), (1, .int (nI p)), (2, .int (nI hd)), (3, .int sv), (4, .int ov), (5, .int ev)] 65 [.int (nI f)]
    have J102 : (¬ noC kn ms sz tk hd sv ov f) → hX z 0 0 (T, J, L, R, A) [(6, .int (bI wb)), (0, .ref (A 63)), (1, .int (nI p)), (2, .int (nI hd)), (3, .int sv), (4, .int ov), (5, .int ev)] 102 [] := by
      intro  hno
      refine x_aload_n C dX11_side_102 1 rfl rfl ?_
      refine x_getiN C fl_X11_370 mO.1 rfl dX11_side_103 ?_
      refine x_eqi (y := nI ns) (by rw [j1 63 (by decide)]; exact hns) ?_
      refine x_iconst (v := nI 4) C dX11_side_106 (by decide +kernel) ?_
      refine x_icmp_neN (tgt := 113) C (by omega) (by omega) dX11_side_107 (by decide) (fun c107 => ?_) (fun c107 => ?_)
      · have c107 : ns < 4 := by omega
        have hE := hE c107
        refine x_aload_n C dX11_side_113 1 rfl rfl ?_
        refine x_getiN C fl_X11_370 mO.1 rfl dX11_side_114 ?_
        refine x_eqi (y := nI ns) (by rw [j1 63 (by decide)]; exact hns) ?_
        refine x_istore (lv' := [(7, .int (nI ns)), (6, .int (bI wb)), (0, .ref (A 63)), (1, .int (nI p)), (2, .int (nI hd)), (3, .int sv), (4, .int ov), (5, .int ev)]) C dX11_side_117 (Nat.lt_of_lt_of_eq (by decide) hN.symm) rfl ?_
        refine x_aload_n C dX11_side_119 2 rfl rfl ?_
        refine x_getrN C fl_X11_177 mO.1 rfl (mO.2.2 34 _ rfl).1 dX11_side_120 ?_
        refine x_iload C dX11_side_123 0 rfl ?_
        refine x_iload_n C dX11_side_125 3 rfl rfl ?_
        refine x_iastN C (mO.2.2 34 _ rfl).2.1 (mO.2.2 34 _ rfl).2.2 (by omega) (by omega) dX11_side_126 (fun I1 eI1 => ?_)
        refine x_aload_n C dX11_side_127 2 rfl rfl ?_
        refine x_getrN C fl_X11_180 mO.1 rfl (mO.2.2 35 _ rfl).1 dX11_side_128 ?_
        refine x_iload C dX11_side_131 0 rfl ?_
        refine x_iload_n C dX11_side_133 4 rfl rfl ?_
        refine x_iastN C (mO.2.2 35 _ rfl).2.1 (mO.2.2 35 _ rfl).2.2 (by omega) (by omega) dX11_side_134 (fun I2 eI2 => ?_)
        refine x_aload_n C dX11_side_135 2 rfl rfl ?_
        refine x_getrN C fl_X11_183 mO.1 rfl (mO.2.2 36 _ rfl).1 dX11_side_136 ?_
        refine x_iload C dX11_side_139 0 rfl ?_
        refine x_iload_n C dX11_side_141 5 rfl rfl ?_
        refine x_iconst (v := (-1)) C dX11_side_142 (by decide +kernel) ?_
        refine x_icmp_eq (tgt := 150) C dX11_side_143 (by decide) (fun c143 => absurd c143 (by exact hsv)) (fun c143 => ?_)
        refine x_iconst (v := nI 1) C dX11_side_146 (by decide +kernel) ?_
        refine x_goto (tgt := 151) C dX11_side_147 (by decide) ?_
        refine x_zastN C (mO.2.2 36 _ rfl).2.1 (mO.2.2 36 _ rfl).2.2 (by omega) (by omega) (by first | exact Or.inl rfl | exact Or.inr rfl | assumption) dX11_side_151 (fun I3 eI3 => ?_)
        refine x_aload_n C dX11_side_152 2 rfl rfl ?_
        refine x_getrN C fl_X11_183 mO.1 rfl (mO.2.2 36 _ rfl).1 dX11_side_153 ?_
        refine x_iload C dX11_side_156 0 rfl ?_
        refine x_zaldN C (mO.2.2 36 _ rfl).2.1 (by omega) (by omega) dX11_side_158 ?_
        refine x_eqi (y := nI 1) (by rw [eI3, va_up_same]; simp [upd]) ?_
        refine x_if_eqN (tgt := 177) C (by omega) dX11_side_159 (by decide) (fun c159 => absurd c159 (by omega)) (fun c159 => ?_)
        refine x_aload_n C dX11_side_162 2 rfl rfl ?_
        refine x_iload_n C dX11_side_163 5 rfl rfl ?_
        refine x_iconst (v := nI 0) C dX11_side_164 (by decide +kernel) ?_
        refine x_aload_n C dX11_side_165 2 rfl rfl ?_
        refine x_getrN C fl_X11_228 mO.1 rfl (mO.2.2 51 _ rfl).1 dX11_side_166 ?_
        refine x_bipush (v := nI 32) C dX11_side_169 (by decide +kernel) ?_
        refine x_iload C dX11_side_171 0 rfl ?_
        refine x_imulN C dX11_side_173 ?_
        refine x_callV C (ok_X11_secret mO sv (nI 0) 51 160 (32 * ns) (by rw [eI3, va_up_other _ _ (by decide), eI2, va_up_other _ _ (by decide), eI1, va_up_other _ _ (by decide), j1 4 (by decide)]; exact hc.1) (by rw [eI3, va_up_other _ _ (by decide), eI2, va_up_other _ _ (by decide), eI1, va_up_other _ _ (by decide), j1 5 (by decide)]; exact hc.2) (mO.2.2 51 _ rfl).2.1 (by decide) (mO.2.2 51 _ rfl).2.2 (by omega) (by decide)) mv_X11_secret ml_X11_394 mO.1 rfl rfl rfl (Nat.le_of_ble_eq_true rfl) (hrm (rm := { frames := 0, cells := 0, slots := 0, locals := 0 }) hZ ⟨Nat.le_of_ble_eq_true rfl, Nat.le_of_ble_eq_true rfl⟩) (hcs hZ ⟨Nat.le_of_ble_eq_true rfl, Nat.le_of_ble_eq_true rfl⟩) dX11_side_174 (fun v G' hp => ?_)
        obtain ⟨rfl, Js, rfl, u1, u2⟩ := hp
        show hX z 0 0 (T, Js, L, R, A) [(7, .int (nI ns)), (6, .int (bI wb)), (0, .ref (A 63)), (1, .int (nI p)), (2, .int (nI hd)), (3, .int sv), (4, .int ov), (5, .int ev)] 177 []
        refine x_aload_n C dX11_side_177 2 rfl rfl ?_
        refine x_getrN C fl_X11_186 mO.1 rfl (mO.2.2 37 _ rfl).1 dX11_side_178 ?_
        refine x_iload C dX11_side_181 0 rfl ?_
        refine x_iload C dX11_side_183 6 rfl ?_
        refine x_iastN C (mO.2.2 37 _ rfl).2.1 (mO.2.2 37 _ rfl).2.2 (by omega) (by omega) dX11_side_185 (fun I4 eI4 => ?_)
        refine x_aload_n C dX11_side_186 2 rfl rfl ?_
        refine x_getrN C fl_X11_189 mO.1 rfl (mO.2.2 38 _ rfl).1 dX11_side_187 ?_
        refine x_iload C dX11_side_190 0 rfl ?_
        refine x_iload C dX11_side_192 7 rfl ?_
        refine x_iastN C (mO.2.2 38 _ rfl).2.1 (mO.2.2 38 _ rfl).2.2 (by omega) (by omega) dX11_side_194 (fun I5 eI5 => ?_)
        refine x_aload_n C dX11_side_195 2 rfl rfl ?_
        refine x_getrN C fl_X11_192 mO.1 rfl (mO.2.2 39 _ rfl).1 dX11_side_196 ?_
        refine x_iload C dX11_side_199 0 rfl ?_
        refine x_iconst (v := nI 0) C dX11_side_201 (by decide +kernel) ?_
        refine x_iastN C (mO.2.2 39 _ rfl).2.1 (mO.2.2 39 _ rfl).2.2 (by omega) (by omega) dX11_side_202 (fun I6 eI6 => ?_)
        refine x_aload_n C dX11_side_203 2 rfl rfl ?_
        refine x_dup C dX11_side_204 rfl ?_
        refine x_getiN C fl_X11_370 mO.1 rfl dX11_side_205 ?_
        refine x_eqi (y := nI ns) (by rw [eI6, va_up_other _ _ (by decide), eI5, va_up_other _ _ (by decide), eI4, va_up_other _ _ (by decide), u2.2 33 (by decide), eI3, va_up_other _ _ (by decide), eI2, va_up_other _ _ (by decide), eI1, va_up_other _ _ (by decide), j1 63 (by decide)]; exact hns) ?_
        refine x_iconst (v := nI 1) C dX11_side_208 (by decide +kernel) ?_
        refine x_iaddN C dX11_side_209 ?_
        refine x_putiN C fl_X11_370 mO.1 mO.2.1 rfl dX11_side_210 (fun I7 eI7 => ?_)
        refine x_aload_n C dX11_side_213 2 rfl rfl ?_
        refine x_iload C dX11_side_214 0 rfl ?_
        have o9 : ∀ q, q ∉ [0, 2, 3, 29, 30, 31, 32, 34, 35, 36, 37, 38, 39, 51] → q ≠ 63 → I7 q = I q := fun q h1 h2 => by simp at h1; rw [eI7, va_up_other _ _ h2, eI6, va_up_other _ _ (by omega), eI5, va_up_other _ _ (by omega), eI4, va_up_other _ _ (by omega), u2.o q (by simp; omega) h2, eI3, va_up_other _ _ (by omega), eI2, va_up_other _ _ (by omega), eI1, va_up_other _ _ (by omega), j1 q (by simp; omega)]
        have g34 : I7 34 = upd (I 34) ns (nI p) := by rw [eI7, va_up_other _ _ (by decide), eI6, va_up_other _ _ (by decide), eI5, va_up_other _ _ (by decide), eI4, va_up_other _ _ (by decide), u2.o 34 (by decide) (by decide), eI3, va_up_other _ _ (by decide), eI2, va_up_other _ _ (by decide), eI1, va_up_same, j1 34 (by decide)]
        have g35 : I7 35 = upd (I 35) ns (nI hd) := by rw [eI7, va_up_other _ _ (by decide), eI6, va_up_other _ _ (by decide), eI5, va_up_other _ _ (by decide), eI4, va_up_other _ _ (by decide), u2.o 35 (by decide) (by decide), eI3, va_up_other _ _ (by decide), eI2, va_up_same, eI1, va_up_other _ _ (by decide), j1 35 (by decide)]
        have g36 : I7 36 = upd (I 36) ns (nI 1) := by rw [eI7, va_up_other _ _ (by decide), eI6, va_up_other _ _ (by decide), eI5, va_up_other _ _ (by decide), eI4, va_up_other _ _ (by decide), u2.o 36 (by decide) (by decide), eI3, va_up_same, eI2, va_up_other _ _ (by decide), eI1, va_up_other _ _ (by decide), j1 36 (by decide)]
        have g37 : I7 37 = upd (I 37) ns (ov) := by rw [eI7, va_up_other _ _ (by decide), eI6, va_up_other _ _ (by decide), eI5, va_up_other _ _ (by decide), eI4, va_up_same, u2.o 37 (by decide) (by decide), eI3, va_up_other _ _ (by decide), eI2, va_up_other _ _ (by decide), eI1, va_up_other _ _ (by decide), j1 37 (by decide)]
        have g38 : I7 38 = upd (I 38) ns (ev) := by rw [eI7, va_up_other _ _ (by decide), eI6, va_up_other _ _ (by decide), eI5, va_up_same, eI4, va_up_other _ _ (by decide), u2.o 38 (by decide) (by decide), eI3, va_up_other _ _ (by decide), eI2, va_up_other _ _ (by decide), eI1, va_up_other _ _ (by decide), j1 38 (by decide)]
        have g39 : I7 39 = upd (I 39) ns (nI 0) := by rw [eI7, va_up_other _ _ (by decide), eI6, va_up_same, eI5, va_up_other _ _ (by decide), eI4, va_up_other _ _ (by decide), u2.o 39 (by decide) (by decide), eI3, va_up_other _ _ (by decide), eI2, va_up_other _ _ (by decide), eI1, va_up_other _ _ (by decide), j1 39 (by decide)]
        have w51 : wRow I I7 51 ns (secF sv (nI 0)) := (wRow.mx (I := I3) (J := Js) u1 (fun _ _ => rfl)).to (by rw [eI7, va_up_other _ _ (by decide), eI6, va_up_other _ _ (by decide), eI5, va_up_other _ _ (by decide), eI4, va_up_other _ _ (by decide)]) |>.fr (by rw [eI3, va_up_other _ _ (by decide), eI2, va_up_other _ _ (by decide), eI1, va_up_other _ _ (by decide), j1 51 (by decide)])
        have g63 : ∀ j, j ≠ 1 → j ≠ 33 → I7 63 j = I 63 j := fun j h1 h3 => by rw [eI7, va_up_same]; unfold upd; rw [if_neg h3, eI6, va_up_other _ _ (by decide), eI5, va_up_other _ _ (by decide), eI4, va_up_other _ _ (by decide), u2.2 j h1, eI3, va_up_other _ _ (by decide), eI2, va_up_other _ _ (by decide), eI1, va_up_other _ _ (by decide), j1 63 (by decide)]
        have g33 : I7 63 33 = nI (ns + 1) := by rw [eI7, va_up_same]; simp [upd]
        have eB : mdE σ I7 ns dn := by
          obtain ⟨h1, h2, h3, h4, h5, h6, h7, ⟨q1, q2, q3, q4, q5, q6⟩, h9, h10⟩ := hE
          exact ⟨h1.o (o9 _ (by decide) (by decide)), h2.o (o9 _ (by decide) (by decide)), h3.o (o9 _ (by decide) (by decide)), h4.o (o9 _ (by decide) (by decide)), h5.o (o9 _ (by decide) (by decide)), h6.o (o9 _ (by decide) (by decide)), fun e => (h7 e).o (o9 _ (by decide) (by decide)), ⟨by rw [o9 42 (by decide) (by decide)]; exact q1, by rw [o9 45 (by decide) (by decide)]; exact q2, by rw [o9 46 (by decide) (by decide)]; exact q3, by rw [o9 43 (by decide) (by decide)]; exact q4, by rw [g39]; simp [upd]; exact hσ12.symm, by rw [o9 40 (by decide) (by decide)]; exact q6⟩, fun e => by rw [o9 44 (by decide) (by decide)]; exact h9 e, by rw [o9 41 (by decide) (by decide)]; exact h10⟩
        refine x_callV C (ok_X11_begins mO (by unfold shC; rw [o9 4 (by decide) (by decide), o9 5 (by decide) (by decide)]; exact hc) ns (by omega) (h13Z.o (o9 13 (by decide) (by decide)) h13) σ dn eB p (by rw [g34]; simp [upd]) hp8 kn (fun h h2 => by rw [o9 25 (by decide) (by decide)]; exact hp.1 h h2) hd (by rw [g35]; simp [upd]) hh (secF sv (nI 0)) pub told w51.1 ov (by rw [g37]; simp [upd]) (fun _ => hpub hsv) (fun h e => hno (Or.inr (Or.inr ⟨e, h⟩))) htold) mv_X11_begins ml_X11_412 mO.1 rfl rfl rfl (Nat.le_of_ble_eq_true rfl) (hrm (rm := { frames := 0, cells := 0, slots := 0, locals := 0 }) hZ ⟨Nat.le_of_ble_eq_true rfl, Nat.le_of_ble_eq_true rfl⟩) (hcs hZ ⟨Nat.le_of_ble_eq_true rfl, Nat.le_of_ble_eq_true rfl⟩) dX11_side_216 (fun v G' hp => ?_)
        obtain ⟨rfl, Jb, Lb, rfl, b1, b2, b3, b4⟩ := hp
        show hX z 0 0 (T, Jb, Lb, R, A) [(7, .int (nI ns)), (6, .int (bI wb)), (0, .ref (A 63)), (1, .int (nI p)), (2, .int (nI hd)), (3, .int sv), (4, .int ov), (5, .int ev)] 219 []
        refine x_iload C dX11_side_219 0 rfl ?_
        exact x_iret C E (Nat.le_of_ble_eq_true rfl) (Nat.le_of_ble_eq_true rfl) dX11_side_221 (by
            refine ⟨f, f1, Or.inr (Or.inr ⟨hno, c107, rfl, Jb, Lb, rfl, b1, ?_, ?_, ?_, ?_, ?_, ?_, ⟨?_, ?_, ?_, ?_, ?_, ?_⟩, ?_, ?_⟩)⟩
            · rw [b2.o 34 (by decide) (by decide), g34]; simp [upd]
            · rw [b2.o 35 (by decide) (by decide), g35]; simp [upd]
            · rw [b2.o 37 (by decide) (by decide), g37]; simp [upd]
            · rw [b2.o 38 (by decide) (by decide), g38]; simp [upd]
            · intro j hj; rw [b2.o 51 (by decide) (by decide)]; exact w51.1 j hj
            · rw [b2.2.1 33 (by decide)]; exact g33
            · intro q h1 h2 h3
              rw [b2.1 q h1 h3]
              refine o9 q (fun h => ?_) h3
              simp at h
              simp [mML] at h1
              simp at h2
              omega
            · intro j h1 h2; rw [b2.2.1 j h1]; exact g63 j h1 h2
            · intro h; exact b2.2.2.1 (h13Z.o (o9 13 (by decide) (by decide)) h)
            · intro q h1 h2 h3
              refine sdO.tr (J := I7) ?_ (b2.2.2.2 q h1 h2 h3)
              by_cases h4 : q = 39
              · subst h4; exact sdO.fld g39 (by decide)
              · exact sdO.rf (o9 q (by simp; omega) (by omega))
            · intro q h1 h2 t h3
              rw [b2.o q (by simp [mML]; omega) (by omega)]
              rcases (show q = 34 ∨ q = 35 ∨ q = 36 ∨ q = 37 ∨ q = 38 by omega) with rfl | rfl | rfl | rfl | rfl
              · rw [g34]; unfold upd; rw [if_neg h3]
              · rw [g35]; unfold upd; rw [if_neg h3]
              · rw [g36]; unfold upd; rw [if_neg h3]
              · rw [g37]; unfold upd; rw [if_neg h3]
              · rw [g38]; unfold upd; rw [if_neg h3]
            · intro i hi; rw [b2.o 51 (by decide) (by decide)]; exact w51.2 i hi
            · rw [b3]; exact o9 57 (by decide) (by decide)
            · rw [b4]; exact o9 59 (by decide) (by decide))
      · refine x_bipush (v := (-4)) C dX11_side_110 (by decide +kernel) ?_
        exact x_iret C E (Nat.le_of_ble_eq_true rfl) (Nat.le_of_ble_eq_true rfl) dX11_side_112 (⟨f, f1, Or.inr (Or.inl ⟨hno, c107, rfl, J, rfl, j1⟩)⟩)
    refine x_if_neN (tgt := 99) C (by omega) dX11_side_65 (by decide) (fun c65 => ?_) (fun c65 => ?_)
    · refine x_bipush (v := (-3)) C dX11_side_99 (by decide +kernel) ?_
      exact x_iret C E (Nat.le_of_ble_eq_true rfl) (Nat.le_of_ble_eq_true rfl) dX11_side_101 (⟨f, f1, Or.inl ⟨by first | exact Or.inl c65 | exact Or.inr (Or.inr ⟨c81, bI_T c96⟩) | exact Or.inr (Or.inl ⟨hsv, hwb.mp (bI_T c75)⟩), rfl, J, rfl, j1⟩⟩)
    · refine x_iload_n C dX11_side_68 4 rfl rfl ?_
      refine x_iconst (v := (-1)) C dX11_side_69 (by decide +kernel) ?_
      refine x_icmp_ne (tgt := 78) C dX11_side_70 (by decide) (fun c70 => ?_) (fun c70 => absurd c70 (by exact hsv))
      refine x_iload C dX11_side_78 5 rfl ?_
      refine x_iconst (v := (-1)) C dX11_side_80 (by decide +kernel) ?_
      refine x_icmp_ne (tgt := 102) C dX11_side_81 (by decide) (fun c81 => ?_) (fun c81 => ?_)
      · refine x_sub (lv' := _) [0, 1, 2, 3, 4, 5, 6] rfl ?_
        exact J102  (noC_n c65 (fun e => absurd e hsv) (by first | exact fun e => absurd e c81 | exact fun _ h => by rw [bI_F c96] at h; cases h))
      · refine x_aload_n C dX11_side_84 1 rfl rfl ?_
        refine x_getrN C fl_X11_152 mO.1 rfl (mO.2.2 25 _ rfl).1 dX11_side_85 ?_
        refine x_iconst (v := nI 2) C dX11_side_88 (by decide +kernel) ?_
        refine x_iload_n C dX11_side_89 2 rfl rfl ?_
        refine x_imulN C dX11_side_90 ?_
        refine x_iconst (v := nI 1) C dX11_side_91 (by decide +kernel) ?_
        refine x_iaddN C dX11_side_92 ?_
        refine x_iload_n C dX11_side_93 3 rfl rfl ?_
        refine x_isubN C (by omega) dX11_side_94 ?_
        refine x_zaldN C (mO.2.2 25 _ rfl).2.1 (by omega) (by omega) dX11_side_95 ?_
        refine x_eqi (y := bI (kn (1 - hd))) (by rw [j1 25 (by decide), show 2 * p + 1 - hd = 2 * p + (1 - hd) by omega]; exact hp.1 (1 - hd) (by omega)) ?_
        refine x_if_eq (tgt := 102) C dX11_side_96 (by decide) (fun c96 => ?_) (fun c96 => ?_)
        · refine x_sub (lv' := _) [0, 1, 2, 3, 4, 5, 6] rfl ?_
          exact J102  (noC_n c65 (fun e => absurd e hsv) (by first | exact fun e => absurd e c81 | exact fun _ h => by rw [bI_F c96] at h; cases h))
        · refine x_bipush (v := (-3)) C dX11_side_99 (by decide +kernel) ?_
          exact x_iret C E (Nat.le_of_ble_eq_true rfl) (Nat.le_of_ble_eq_true rfl) dX11_side_101 (⟨f, f1, Or.inl ⟨by first | exact Or.inl c65 | exact Or.inr (Or.inr ⟨c81, bI_T c96⟩) | exact Or.inr (Or.inl ⟨hsv, hwb.mp (bI_T c75)⟩), rfl, J, rfl, j1⟩⟩)
  refine x_aload_n C dX11_side_31 0 rfl rfl ?_
  refine x_getrN C fl_X11_152 mO.1 rfl (mO.2.2 25 _ rfl).1 dX11_side_32 ?_
  refine x_iconst (v := nI 2) C dX11_side_35 (by decide +kernel) ?_
  refine x_iload_n C dX11_side_36 1 rfl rfl ?_
  refine x_imulN C dX11_side_37 ?_
  refine x_iload_n C dX11_side_38 2 rfl rfl ?_
  refine x_iaddN C dX11_side_39 ?_
  refine x_zaldN C (mO.2.2 25 _ rfl).2.1 (by omega) (by omega) dX11_side_40 ?_
  refine x_eqi (y := bI (kn hd)) (hp.1 hd hh) ?_
  refine x_if_ne (tgt := 53) C dX11_side_41 (by decide) (fun c41 => ?_) (fun c41 => ?_)
  · refine x_iconst (v := nI 1) C dX11_side_53 (by decide +kernel) ?_
    refine x_goto (tgt := 58) C dX11_side_54 (by decide) ?_
    refine x_sub (lv' := _) [0, 1, 2, 3, 4, 5] rfl ?_
    exact J58 true ⟨fun _ => by first | exact Or.inl (bI_T c41) | exact Or.inr (hq.mp (bI_T c50)), fun _ => rfl⟩
  · refine x_aload_n C dX11_side_44 0 rfl rfl ?_
    refine x_iload_n C dX11_side_45 1 rfl rfl ?_
    refine x_iload_n C dX11_side_46 2 rfl rfl ?_
    refine x_callV C (ok_X11_sendsS mO p hp8 kn ms sz tk hp hd hh) mv_X11_sendsS ml_X11_408 mO.1 rfl rfl rfl (Nat.le_of_ble_eq_true rfl) (hrm (rm := { frames := 0, cells := 0, slots := 0, locals := 0 }) hZ ⟨Nat.le_of_ble_eq_true rfl, Nat.le_of_ble_eq_true rfl⟩) (hcs hZ ⟨Nat.le_of_ble_eq_true rfl, Nat.le_of_ble_eq_true rfl⟩) dX11_side_47 (fun v G' hp => ?_)
    obtain ⟨⟨q, rfl, hq⟩, rfl⟩ := hp
    show hX z 0 0 (T, I, L, R, A) [(0, .ref (A 63)), (1, .int (nI p)), (2, .int (nI hd)), (3, .int sv), (4, .int ov), (5, .int ev)] 50 [.int (bI q)]
    refine x_if_eq (tgt := 57) C dX11_side_50 (by decide) (fun c50 => ?_) (fun c50 => ?_)
    · refine x_iconst (v := nI 0) C dX11_side_57 (by decide +kernel) ?_
      refine x_sub (lv' := _) [0, 1, 2, 3, 4, 5] rfl ?_
      exact J58 false (wb_F (bI_F c41) (bI_F c50) hq)
    · refine x_iconst (v := nI 1) C dX11_side_53 (by decide +kernel) ?_
      refine x_goto (tgt := 58) C dX11_side_54 (by decide) ?_
      refine x_sub (lv' := _) [0, 1, 2, 3, 4, 5] rfl ?_
      exact J58 true ⟨fun _ => by first | exact Or.inl (bI_T c41) | exact Or.inr (hq.mp (bI_T c50)), fun _ => rfl⟩

set_option maxHeartbeats 4000000 in
set_option maxRecDepth 100000 in
theorem ok0_X11_side {l : Launch} {a0 : Nat} {D : va_G} {sa : Nat → Nat} {T : Nat → Option hKd} {I : Nat → Nat → Int32} {L : Nat → Nat → Int64} {R : Nat → Nat → Option Nat} {A : Nat → Nat} (ns : Nat) (hns : I 63 33 = nI ns) (hn4 : ns ≤ 4) (np : Nat) (hnp : I 63 24 = nI np) (hn8 : np ≤ 8) (mO : isM T R A a0) (hc : shC I) (h13 : h13Z I) (p : Nat) (hpn : p < np) (kn : Nat → Bool) (ms : Nat) (sz : Nat → Nat) (tk : Nat → Nat → Nat) (hp : mdP I p kn ms sz tk) (hd : Nat) (hh : hd < 2) (sv ov ev : Int32) (hsv0 : -1 ≤ sv) (hov0 : -1 ≤ ov) (σ : sgT) (dn : Bool) (hE : ns < 4 → mdE σ I ns dn) (hσ12 : σ 7 12 = nI 0) (pub told : Nat → Int32) (hpub : sv ≠ -1 → ∀ j, j < 32 → pub j = pubF (secF sv (nI 0)) j) (htold : ov ≠ -1 → ∀ j, j < 32 → told j = pubF (secF ov (nI 0)) j) (hsv : sv = -1) : hM l a0 D sa yX11_side cX11_side 8 (some .int) { frames := 6, cells := 0, slots := 0, locals := 144 } [.ref (A 63), .int (nI p), .int (nI hd), .int sv, .int ov, .int ev] (T, I, L, R, A) (fun r G' => ∃ f, isF kn ms sz tk f ∧ ((noC kn ms sz tk hd sv ov f ∧ r = some (.int (-3)) ∧ ∃ I', G' = (T, I', L, R, A) ∧ fx [29, 30, 31, 32] I I') ∨ (¬ noC kn ms sz tk hd sv ov f ∧ ns = 4 ∧ r = some (.int (-4)) ∧ ∃ I', G' = (T, I', L, R, A) ∧ fx [29, 30, 31, 32] I I') ∨ (¬ noC kn ms sz tk hd sv ov f ∧ ns < 4 ∧ r = some (.int (nI ns)) ∧ ∃ I' L', G' = (T, I', L', R, A) ∧ mdE (opB kn hd pub told (decide (ov ≠ -1)) σ) I' ns false ∧ I' 34 ns = nI p ∧ I' 35 ns = nI hd ∧ I' 37 ns = ov ∧ I' 38 ns = ev ∧ mR I' 51 ns (fun j => I 51 (32 * ns + j)) ∧ I' 63 33 = nI (ns + 1) ∧ mFs ns I I' ∧ I' 57 = I 57 ∧ I' 59 = I 59))) := by
  refine hM.of (by decide +kernel) (Nat.le_of_ble_eq_true rfl) ?_
  intro z hl h0 hD hS hN C E
  subst hl; subst h0; subst hD; subst hS
  have C : hC z RX11 cX11_side := C
  have hZ := E.2.2.2.1
  show hX z 0 0 (T, I, L, R, A) [(0, .ref (A 63)), (1, .int (nI p)), (2, .int (nI hd)), (3, .int sv), (4, .int ov), (5, .int ev)] 0 []
  have hp8 : p < 8 := by omega
  refine x_aload_n C dX11_side_0 0 rfl rfl ?_
  refine x_iload_n C dX11_side_1 1 rfl rfl ?_
  refine x_callV C (ok_X11_isPattern mO np hnp hn8 p hpn) mv_X11_isPattern ml_X11_373 mO.1 rfl rfl rfl (Nat.le_of_ble_eq_true rfl) (hrm (rm := { frames := 0, cells := 0, slots := 0, locals := 0 }) hZ ⟨Nat.le_of_ble_eq_true rfl, Nat.le_of_ble_eq_true rfl⟩) (hcs hZ ⟨Nat.le_of_ble_eq_true rfl, Nat.le_of_ble_eq_true rfl⟩) dX11_side_2 (fun v G' hp => ?_)
  obtain ⟨rfl, rfl⟩ := hp
  show hX z 0 0 (T, I, L, R, A) [(0, .ref (A 63)), (1, .int (nI p)), (2, .int (nI hd)), (3, .int sv), (4, .int ov), (5, .int ev)] 5 [.int (nI 1)]
  refine x_if_eqN (tgt := 28) C (by omega) dX11_side_5 (by decide) (fun c5 => absurd c5 (by omega)) (fun c5 => ?_)
  refine x_iload_n C dX11_side_8 2 rfl rfl ?_
  refine x_iconst (v := nI 0) C dX11_side_9 (by decide +kernel) ?_
  refine x_iconst (v := nI 1) C dX11_side_10 (by decide +kernel) ?_
  refine x_callS C (ok_X11_in (nI hd) (nI 0) (nI 1)) ms_X11_in ml_X11_366 rfl rfl (Nat.le_of_ble_eq_true rfl) (hrm (rm := { frames := 0, cells := 0, slots := 0, locals := 0 }) hZ ⟨Nat.le_of_ble_eq_true rfl, Nat.le_of_ble_eq_true rfl⟩) (hcs hZ ⟨Nat.le_of_ble_eq_true rfl, Nat.le_of_ble_eq_true rfl⟩) dX11_side_11 (fun v G' hp => ?_)
  obtain ⟨rfl, rfl⟩ := hp
  show hX z 0 0 (T, I, L, R, A) [(0, .ref (A 63)), (1, .int (nI p)), (2, .int (nI hd)), (3, .int sv), (4, .int ov), (5, .int ev)] 14 [.int (bI (decide (nI 0 ≤ nI hd ∧ nI hd ≤ nI 1)))]
  refine x_eqi (y := nI 1) (by rw [decide_eq_true (show nI 0 ≤ nI hd ∧ nI hd ≤ nI 1 from ⟨(nI_leI (by decide) (by omega)).mpr (Nat.zero_le _), (nI_leI (by omega) (by decide)).mpr (by omega)⟩)]; rfl) ?_
  refine x_if_eqN (tgt := 28) C (by omega) dX11_side_14 (by decide) (fun c14 => absurd c14 (by omega)) (fun c14 => ?_)
  refine x_iload_n C dX11_side_17 3 rfl rfl ?_
  refine x_iconst (v := (-1)) C dX11_side_18 (by decide +kernel) ?_
  refine x_icmp_lt (tgt := 28) C dX11_side_19 (by decide) (fun c19 => absurd c19 (by exact Int32.not_lt.mpr hsv0)) (fun c19 => ?_)
  refine x_iload C dX11_side_22 4 rfl ?_
  refine x_iconst (v := (-1)) C dX11_side_24 (by decide +kernel) ?_
  refine x_icmp_ge (tgt := 31) C dX11_side_25 (by decide) (fun c25 => ?_) (fun c25 => absurd c25 (by exact fun h => h hov0))
  have J58 : ∀ (wb : Bool), (wb = true ↔ (kn hd = true ∨ sndS ms sz tk hd)) → hX z 0 0 (T, I, L, R, A) [(0, .ref (A 63)), (1, .int (nI p)), (2, .int (nI hd)), (3, .int sv), (4, .int ov), (5, .int ev)] 58 [.int (bI wb)] := by
    intro wb hwb
    refine x_istore (lv' := [(6, .int (bI wb)), (0, .ref (A 63)), (1, .int (nI p)), (2, .int (nI hd)), (3, .int sv), (4, .int ov), (5, .int ev)]) C dX11_side_58 (Nat.lt_of_lt_of_eq (by decide) hN.symm) rfl ?_
    refine x_aload_n C dX11_side_60 1 rfl rfl ?_
    refine x_iload_n C dX11_side_61 2 rfl rfl ?_
    refine x_callV C (ok_X11_faultOf mO p hp8 kn ms sz tk hp) mv_X11_faultOf ml_X11_386 mO.1 rfl rfl rfl (Nat.le_of_ble_eq_true rfl) (hrm (rm := { frames := 0, cells := 0, slots := 0, locals := 0 }) hZ ⟨Nat.le_of_ble_eq_true rfl, Nat.le_of_ble_eq_true rfl⟩) (hcs hZ ⟨Nat.le_of_ble_eq_true rfl, Nat.le_of_ble_eq_true rfl⟩) dX11_side_62 (fun v G' hp => ?_)
    obtain ⟨⟨f, rfl, f1, f2⟩, J, rfl, j1⟩ := hp
    show hX z 0 0 (T, J, L, R, A) [(6, .int (bI wb)), (0, .ref (A 63)), (1, .int (nI p)), (2, .int (nI hd)), (3, .int sv), (4, .int ov), (5, .int ev)] 65 [.int (nI f)]
    have J102 : (¬ noC kn ms sz tk hd sv ov f) → hX z 0 0 (T, J, L, R, A) [(6, .int (bI wb)), (0, .ref (A 63)), (1, .int (nI p)), (2, .int (nI hd)), (3, .int sv), (4, .int ov), (5, .int ev)] 102 [] := by
      intro  hno
      refine x_aload_n C dX11_side_102 1 rfl rfl ?_
      refine x_getiN C fl_X11_370 mO.1 rfl dX11_side_103 ?_
      refine x_eqi (y := nI ns) (by rw [j1 63 (by decide)]; exact hns) ?_
      refine x_iconst (v := nI 4) C dX11_side_106 (by decide +kernel) ?_
      refine x_icmp_neN (tgt := 113) C (by omega) (by omega) dX11_side_107 (by decide) (fun c107 => ?_) (fun c107 => ?_)
      · have c107 : ns < 4 := by omega
        have hE := hE c107
        refine x_aload_n C dX11_side_113 1 rfl rfl ?_
        refine x_getiN C fl_X11_370 mO.1 rfl dX11_side_114 ?_
        refine x_eqi (y := nI ns) (by rw [j1 63 (by decide)]; exact hns) ?_
        refine x_istore (lv' := [(7, .int (nI ns)), (6, .int (bI wb)), (0, .ref (A 63)), (1, .int (nI p)), (2, .int (nI hd)), (3, .int sv), (4, .int ov), (5, .int ev)]) C dX11_side_117 (Nat.lt_of_lt_of_eq (by decide) hN.symm) rfl ?_
        refine x_aload_n C dX11_side_119 2 rfl rfl ?_
        refine x_getrN C fl_X11_177 mO.1 rfl (mO.2.2 34 _ rfl).1 dX11_side_120 ?_
        refine x_iload C dX11_side_123 0 rfl ?_
        refine x_iload_n C dX11_side_125 3 rfl rfl ?_
        refine x_iastN C (mO.2.2 34 _ rfl).2.1 (mO.2.2 34 _ rfl).2.2 (by omega) (by omega) dX11_side_126 (fun I1 eI1 => ?_)
        refine x_aload_n C dX11_side_127 2 rfl rfl ?_
        refine x_getrN C fl_X11_180 mO.1 rfl (mO.2.2 35 _ rfl).1 dX11_side_128 ?_
        refine x_iload C dX11_side_131 0 rfl ?_
        refine x_iload_n C dX11_side_133 4 rfl rfl ?_
        refine x_iastN C (mO.2.2 35 _ rfl).2.1 (mO.2.2 35 _ rfl).2.2 (by omega) (by omega) dX11_side_134 (fun I2 eI2 => ?_)
        refine x_aload_n C dX11_side_135 2 rfl rfl ?_
        refine x_getrN C fl_X11_183 mO.1 rfl (mO.2.2 36 _ rfl).1 dX11_side_136 ?_
        refine x_iload C dX11_side_139 0 rfl ?_
        refine x_iload_n C dX11_side_141 5 rfl rfl ?_
        refine x_iconst (v := (-1)) C dX11_side_142 (by decide +kernel) ?_
        refine x_icmp_eq (tgt := 150) C dX11_side_143 (by decide) (fun c143 => ?_) (fun c143 => absurd c143 (by exact fun h => h hsv))
        refine x_iconst (v := nI 0) C dX11_side_150 (by decide +kernel) ?_
        refine x_zastN C (mO.2.2 36 _ rfl).2.1 (mO.2.2 36 _ rfl).2.2 (by omega) (by omega) (by first | exact Or.inl rfl | exact Or.inr rfl | assumption) dX11_side_151 (fun I3 eI3 => ?_)
        refine x_aload_n C dX11_side_152 2 rfl rfl ?_
        refine x_getrN C fl_X11_183 mO.1 rfl (mO.2.2 36 _ rfl).1 dX11_side_153 ?_
        refine x_iload C dX11_side_156 0 rfl ?_
        refine x_zaldN C (mO.2.2 36 _ rfl).2.1 (by omega) (by omega) dX11_side_158 ?_
        refine x_eqi (y := nI 0) (by rw [eI3, va_up_same]; simp [upd]) ?_
        refine x_if_eqN (tgt := 177) C (by omega) dX11_side_159 (by decide) (fun c159 => ?_) (fun c159 => absurd c159 (by omega))
        refine x_aload_n C dX11_side_177 2 rfl rfl ?_
        refine x_getrN C fl_X11_186 mO.1 rfl (mO.2.2 37 _ rfl).1 dX11_side_178 ?_
        refine x_iload C dX11_side_181 0 rfl ?_
        refine x_iload C dX11_side_183 6 rfl ?_
        refine x_iastN C (mO.2.2 37 _ rfl).2.1 (mO.2.2 37 _ rfl).2.2 (by omega) (by omega) dX11_side_185 (fun I4 eI4 => ?_)
        refine x_aload_n C dX11_side_186 2 rfl rfl ?_
        refine x_getrN C fl_X11_189 mO.1 rfl (mO.2.2 38 _ rfl).1 dX11_side_187 ?_
        refine x_iload C dX11_side_190 0 rfl ?_
        refine x_iload C dX11_side_192 7 rfl ?_
        refine x_iastN C (mO.2.2 38 _ rfl).2.1 (mO.2.2 38 _ rfl).2.2 (by omega) (by omega) dX11_side_194 (fun I5 eI5 => ?_)
        refine x_aload_n C dX11_side_195 2 rfl rfl ?_
        refine x_getrN C fl_X11_192 mO.1 rfl (mO.2.2 39 _ rfl).1 dX11_side_196 ?_
        refine x_iload C dX11_side_199 0 rfl ?_
        refine x_iconst (v := nI 0) C dX11_side_201 (by decide +kernel) ?_
        refine x_iastN C (mO.2.2 39 _ rfl).2.1 (mO.2.2 39 _ rfl).2.2 (by omega) (by omega) dX11_side_202 (fun I6 eI6 => ?_)
        refine x_aload_n C dX11_side_203 2 rfl rfl ?_
        refine x_dup C dX11_side_204 rfl ?_
        refine x_getiN C fl_X11_370 mO.1 rfl dX11_side_205 ?_
        refine x_eqi (y := nI ns) (by rw [eI6, va_up_other _ _ (by decide), eI5, va_up_other _ _ (by decide), eI4, va_up_other _ _ (by decide), eI3, va_up_other _ _ (by decide), eI2, va_up_other _ _ (by decide), eI1, va_up_other _ _ (by decide), j1 63 (by decide)]; exact hns) ?_
        refine x_iconst (v := nI 1) C dX11_side_208 (by decide +kernel) ?_
        refine x_iaddN C dX11_side_209 ?_
        refine x_putiN C fl_X11_370 mO.1 mO.2.1 rfl dX11_side_210 (fun I7 eI7 => ?_)
        refine x_aload_n C dX11_side_213 2 rfl rfl ?_
        refine x_iload C dX11_side_214 0 rfl ?_
        have o9 : ∀ q, q ∉ [0, 2, 3, 29, 30, 31, 32, 34, 35, 36, 37, 38, 39, 51] → q ≠ 63 → I7 q = I q := fun q h1 h2 => by simp at h1; rw [eI7, va_up_other _ _ h2, eI6, va_up_other _ _ (by omega), eI5, va_up_other _ _ (by omega), eI4, va_up_other _ _ (by omega), eI3, va_up_other _ _ (by omega), eI2, va_up_other _ _ (by omega), eI1, va_up_other _ _ (by omega), j1 q (by simp; omega)]
        have g34 : I7 34 = upd (I 34) ns (nI p) := by rw [eI7, va_up_other _ _ (by decide), eI6, va_up_other _ _ (by decide), eI5, va_up_other _ _ (by decide), eI4, va_up_other _ _ (by decide), eI3, va_up_other _ _ (by decide), eI2, va_up_other _ _ (by decide), eI1, va_up_same, j1 34 (by decide)]
        have g35 : I7 35 = upd (I 35) ns (nI hd) := by rw [eI7, va_up_other _ _ (by decide), eI6, va_up_other _ _ (by decide), eI5, va_up_other _ _ (by decide), eI4, va_up_other _ _ (by decide), eI3, va_up_other _ _ (by decide), eI2, va_up_same, eI1, va_up_other _ _ (by decide), j1 35 (by decide)]
        have g36 : I7 36 = upd (I 36) ns (nI 0) := by rw [eI7, va_up_other _ _ (by decide), eI6, va_up_other _ _ (by decide), eI5, va_up_other _ _ (by decide), eI4, va_up_other _ _ (by decide), eI3, va_up_same, eI2, va_up_other _ _ (by decide), eI1, va_up_other _ _ (by decide), j1 36 (by decide)]
        have g37 : I7 37 = upd (I 37) ns (ov) := by rw [eI7, va_up_other _ _ (by decide), eI6, va_up_other _ _ (by decide), eI5, va_up_other _ _ (by decide), eI4, va_up_same, eI3, va_up_other _ _ (by decide), eI2, va_up_other _ _ (by decide), eI1, va_up_other _ _ (by decide), j1 37 (by decide)]
        have g38 : I7 38 = upd (I 38) ns (ev) := by rw [eI7, va_up_other _ _ (by decide), eI6, va_up_other _ _ (by decide), eI5, va_up_same, eI4, va_up_other _ _ (by decide), eI3, va_up_other _ _ (by decide), eI2, va_up_other _ _ (by decide), eI1, va_up_other _ _ (by decide), j1 38 (by decide)]
        have g39 : I7 39 = upd (I 39) ns (nI 0) := by rw [eI7, va_up_other _ _ (by decide), eI6, va_up_same, eI5, va_up_other _ _ (by decide), eI4, va_up_other _ _ (by decide), eI3, va_up_other _ _ (by decide), eI2, va_up_other _ _ (by decide), eI1, va_up_other _ _ (by decide), j1 39 (by decide)]
        have w51 : I7 51 = I 51 := by rw [eI7, va_up_other _ _ (by decide), eI6, va_up_other _ _ (by decide), eI5, va_up_other _ _ (by decide), eI4, va_up_other _ _ (by decide), eI3, va_up_other _ _ (by decide), eI2, va_up_other _ _ (by decide), eI1, va_up_other _ _ (by decide), j1 51 (by decide)]
        have g63 : ∀ j, j ≠ 1 → j ≠ 33 → I7 63 j = I 63 j := fun j h1 h3 => by rw [eI7, va_up_same]; unfold upd; rw [if_neg h3, eI6, va_up_other _ _ (by decide), eI5, va_up_other _ _ (by decide), eI4, va_up_other _ _ (by decide), eI3, va_up_other _ _ (by decide), eI2, va_up_other _ _ (by decide), eI1, va_up_other _ _ (by decide), j1 63 (by decide)]
        have g33 : I7 63 33 = nI (ns + 1) := by rw [eI7, va_up_same]; simp [upd]
        have eB : mdE σ I7 ns dn := by
          obtain ⟨h1, h2, h3, h4, h5, h6, h7, ⟨q1, q2, q3, q4, q5, q6⟩, h9, h10⟩ := hE
          exact ⟨h1.o (o9 _ (by decide) (by decide)), h2.o (o9 _ (by decide) (by decide)), h3.o (o9 _ (by decide) (by decide)), h4.o (o9 _ (by decide) (by decide)), h5.o (o9 _ (by decide) (by decide)), h6.o (o9 _ (by decide) (by decide)), fun e => (h7 e).o (o9 _ (by decide) (by decide)), ⟨by rw [o9 42 (by decide) (by decide)]; exact q1, by rw [o9 45 (by decide) (by decide)]; exact q2, by rw [o9 46 (by decide) (by decide)]; exact q3, by rw [o9 43 (by decide) (by decide)]; exact q4, by rw [g39]; simp [upd]; exact hσ12.symm, by rw [o9 40 (by decide) (by decide)]; exact q6⟩, fun e => by rw [o9 44 (by decide) (by decide)]; exact h9 e, by rw [o9 41 (by decide) (by decide)]; exact h10⟩
        refine x_callV C (ok_X11_begins mO (by unfold shC; rw [o9 4 (by decide) (by decide), o9 5 (by decide) (by decide)]; exact hc) ns (by omega) (h13Z.o (o9 13 (by decide) (by decide)) h13) σ dn eB p (by rw [g34]; simp [upd]) hp8 kn (fun h h2 => by rw [o9 25 (by decide) (by decide)]; exact hp.1 h h2) hd (by rw [g35]; simp [upd]) hh (fun j => I 51 (32 * ns + j)) pub told (fun j hj => by rw [w51]) ov (by rw [g37]; simp [upd]) (fun h => absurd (Or.inr (Or.inl ⟨hsv, Or.inl h⟩)) hno) (fun h e => hno (Or.inr (Or.inr ⟨e, h⟩))) htold) mv_X11_begins ml_X11_412 mO.1 rfl rfl rfl (Nat.le_of_ble_eq_true rfl) (hrm (rm := { frames := 0, cells := 0, slots := 0, locals := 0 }) hZ ⟨Nat.le_of_ble_eq_true rfl, Nat.le_of_ble_eq_true rfl⟩) (hcs hZ ⟨Nat.le_of_ble_eq_true rfl, Nat.le_of_ble_eq_true rfl⟩) dX11_side_216 (fun v G' hp => ?_)
        obtain ⟨rfl, Jb, Lb, rfl, b1, b2, b3, b4⟩ := hp
        show hX z 0 0 (T, Jb, Lb, R, A) [(7, .int (nI ns)), (6, .int (bI wb)), (0, .ref (A 63)), (1, .int (nI p)), (2, .int (nI hd)), (3, .int sv), (4, .int ov), (5, .int ev)] 219 []
        refine x_iload C dX11_side_219 0 rfl ?_
        exact x_iret C E (Nat.le_of_ble_eq_true rfl) (Nat.le_of_ble_eq_true rfl) dX11_side_221 (by
            refine ⟨f, f1, Or.inr (Or.inr ⟨hno, c107, rfl, Jb, Lb, rfl, b1, ?_, ?_, ?_, ?_, ?_, ?_, ⟨?_, ?_, ?_, ?_, ?_, ?_⟩, ?_, ?_⟩)⟩
            · rw [b2.o 34 (by decide) (by decide), g34]; simp [upd]
            · rw [b2.o 35 (by decide) (by decide), g35]; simp [upd]
            · rw [b2.o 37 (by decide) (by decide), g37]; simp [upd]
            · rw [b2.o 38 (by decide) (by decide), g38]; simp [upd]
            · intro j hj; rw [b2.o 51 (by decide) (by decide)]; rw [w51]
            · rw [b2.2.1 33 (by decide)]; exact g33
            · intro q h1 h2 h3
              rw [b2.1 q h1 h3]
              refine o9 q (fun h => ?_) h3
              simp at h
              simp [mML] at h1
              simp at h2
              omega
            · intro j h1 h2; rw [b2.2.1 j h1]; exact g63 j h1 h2
            · intro h; exact b2.2.2.1 (h13Z.o (o9 13 (by decide) (by decide)) h)
            · intro q h1 h2 h3
              refine sdO.tr (J := I7) ?_ (b2.2.2.2 q h1 h2 h3)
              by_cases h4 : q = 39
              · subst h4; exact sdO.fld g39 (by decide)
              · exact sdO.rf (o9 q (by simp; omega) (by omega))
            · intro q h1 h2 t h3
              rw [b2.o q (by simp [mML]; omega) (by omega)]
              rcases (show q = 34 ∨ q = 35 ∨ q = 36 ∨ q = 37 ∨ q = 38 by omega) with rfl | rfl | rfl | rfl | rfl
              · rw [g34]; unfold upd; rw [if_neg h3]
              · rw [g35]; unfold upd; rw [if_neg h3]
              · rw [g36]; unfold upd; rw [if_neg h3]
              · rw [g37]; unfold upd; rw [if_neg h3]
              · rw [g38]; unfold upd; rw [if_neg h3]
            · intro i hi; rw [b2.o 51 (by decide) (by decide)]; rw [w51]
            · rw [b3]; exact o9 57 (by decide) (by decide)
            · rw [b4]; exact o9 59 (by decide) (by decide))
      · refine x_bipush (v := (-4)) C dX11_side_110 (by decide +kernel) ?_
        exact x_iret C E (Nat.le_of_ble_eq_true rfl) (Nat.le_of_ble_eq_true rfl) dX11_side_112 (⟨f, f1, Or.inr (Or.inl ⟨hno, c107, rfl, J, rfl, j1⟩)⟩)
    refine x_if_neN (tgt := 99) C (by omega) dX11_side_65 (by decide) (fun c65 => ?_) (fun c65 => ?_)
    · refine x_bipush (v := (-3)) C dX11_side_99 (by decide +kernel) ?_
      exact x_iret C E (Nat.le_of_ble_eq_true rfl) (Nat.le_of_ble_eq_true rfl) dX11_side_101 (⟨f, f1, Or.inl ⟨by first | exact Or.inl c65 | exact Or.inr (Or.inr ⟨c81, bI_T c96⟩) | exact Or.inr (Or.inl ⟨hsv, hwb.mp (bI_T c75)⟩), rfl, J, rfl, j1⟩⟩)
    · refine x_iload_n C dX11_side_68 4 rfl rfl ?_
      refine x_iconst (v := (-1)) C dX11_side_69 (by decide +kernel) ?_
      refine x_icmp_ne (tgt := 78) C dX11_side_70 (by decide) (fun c70 => absurd c70 (by exact fun h => h hsv)) (fun c70 => ?_)
      refine x_iload C dX11_side_73 0 rfl ?_
      refine x_if_ne (tgt := 99) C dX11_side_75 (by decide) (fun c75 => ?_) (fun c75 => ?_)
      · refine x_bipush (v := (-3)) C dX11_side_99 (by decide +kernel) ?_
        exact x_iret C E (Nat.le_of_ble_eq_true rfl) (Nat.le_of_ble_eq_true rfl) dX11_side_101 (⟨f, f1, Or.inl ⟨by first | exact Or.inl c65 | exact Or.inr (Or.inr ⟨c81, bI_T c96⟩) | exact Or.inr (Or.inl ⟨hsv, hwb.mp (bI_T c75)⟩), rfl, J, rfl, j1⟩⟩)
      · refine x_iload C dX11_side_78 5 rfl ?_
        refine x_iconst (v := (-1)) C dX11_side_80 (by decide +kernel) ?_
        refine x_icmp_ne (tgt := 102) C dX11_side_81 (by decide) (fun c81 => ?_) (fun c81 => ?_)
        · refine x_sub (lv' := _) [0, 1, 2, 3, 4, 5, 6] rfl ?_
          exact J102  (noC_n c65 (fun _ h => by have h3 := hwb.mpr h; rw [bI_F c75] at h3; cases h3) (by first | exact fun e => absurd e c81 | exact fun _ h => by rw [bI_F c96] at h; cases h))
        · refine x_aload_n C dX11_side_84 1 rfl rfl ?_
          refine x_getrN C fl_X11_152 mO.1 rfl (mO.2.2 25 _ rfl).1 dX11_side_85 ?_
          refine x_iconst (v := nI 2) C dX11_side_88 (by decide +kernel) ?_
          refine x_iload_n C dX11_side_89 2 rfl rfl ?_
          refine x_imulN C dX11_side_90 ?_
          refine x_iconst (v := nI 1) C dX11_side_91 (by decide +kernel) ?_
          refine x_iaddN C dX11_side_92 ?_
          refine x_iload_n C dX11_side_93 3 rfl rfl ?_
          refine x_isubN C (by omega) dX11_side_94 ?_
          refine x_zaldN C (mO.2.2 25 _ rfl).2.1 (by omega) (by omega) dX11_side_95 ?_
          refine x_eqi (y := bI (kn (1 - hd))) (by rw [j1 25 (by decide), show 2 * p + 1 - hd = 2 * p + (1 - hd) by omega]; exact hp.1 (1 - hd) (by omega)) ?_
          refine x_if_eq (tgt := 102) C dX11_side_96 (by decide) (fun c96 => ?_) (fun c96 => ?_)
          · refine x_sub (lv' := _) [0, 1, 2, 3, 4, 5, 6] rfl ?_
            exact J102  (noC_n c65 (fun _ h => by have h3 := hwb.mpr h; rw [bI_F c75] at h3; cases h3) (by first | exact fun e => absurd e c81 | exact fun _ h => by rw [bI_F c96] at h; cases h))
          · refine x_bipush (v := (-3)) C dX11_side_99 (by decide +kernel) ?_
            exact x_iret C E (Nat.le_of_ble_eq_true rfl) (Nat.le_of_ble_eq_true rfl) dX11_side_101 (⟨f, f1, Or.inl ⟨by first | exact Or.inl c65 | exact Or.inr (Or.inr ⟨c81, bI_T c96⟩) | exact Or.inr (Or.inl ⟨hsv, hwb.mp (bI_T c75)⟩), rfl, J, rfl, j1⟩⟩)
  refine x_aload_n C dX11_side_31 0 rfl rfl ?_
  refine x_getrN C fl_X11_152 mO.1 rfl (mO.2.2 25 _ rfl).1 dX11_side_32 ?_
  refine x_iconst (v := nI 2) C dX11_side_35 (by decide +kernel) ?_
  refine x_iload_n C dX11_side_36 1 rfl rfl ?_
  refine x_imulN C dX11_side_37 ?_
  refine x_iload_n C dX11_side_38 2 rfl rfl ?_
  refine x_iaddN C dX11_side_39 ?_
  refine x_zaldN C (mO.2.2 25 _ rfl).2.1 (by omega) (by omega) dX11_side_40 ?_
  refine x_eqi (y := bI (kn hd)) (hp.1 hd hh) ?_
  refine x_if_ne (tgt := 53) C dX11_side_41 (by decide) (fun c41 => ?_) (fun c41 => ?_)
  · refine x_iconst (v := nI 1) C dX11_side_53 (by decide +kernel) ?_
    refine x_goto (tgt := 58) C dX11_side_54 (by decide) ?_
    refine x_sub (lv' := _) [0, 1, 2, 3, 4, 5] rfl ?_
    exact J58 true ⟨fun _ => by first | exact Or.inl (bI_T c41) | exact Or.inr (hq.mp (bI_T c50)), fun _ => rfl⟩
  · refine x_aload_n C dX11_side_44 0 rfl rfl ?_
    refine x_iload_n C dX11_side_45 1 rfl rfl ?_
    refine x_iload_n C dX11_side_46 2 rfl rfl ?_
    refine x_callV C (ok_X11_sendsS mO p hp8 kn ms sz tk hp hd hh) mv_X11_sendsS ml_X11_408 mO.1 rfl rfl rfl (Nat.le_of_ble_eq_true rfl) (hrm (rm := { frames := 0, cells := 0, slots := 0, locals := 0 }) hZ ⟨Nat.le_of_ble_eq_true rfl, Nat.le_of_ble_eq_true rfl⟩) (hcs hZ ⟨Nat.le_of_ble_eq_true rfl, Nat.le_of_ble_eq_true rfl⟩) dX11_side_47 (fun v G' hp => ?_)
    obtain ⟨⟨q, rfl, hq⟩, rfl⟩ := hp
    show hX z 0 0 (T, I, L, R, A) [(0, .ref (A 63)), (1, .int (nI p)), (2, .int (nI hd)), (3, .int sv), (4, .int ov), (5, .int ev)] 50 [.int (bI q)]
    refine x_if_eq (tgt := 57) C dX11_side_50 (by decide) (fun c50 => ?_) (fun c50 => ?_)
    · refine x_iconst (v := nI 0) C dX11_side_57 (by decide +kernel) ?_
      refine x_sub (lv' := _) [0, 1, 2, 3, 4, 5] rfl ?_
      exact J58 false (wb_F (bI_F c41) (bI_F c50) hq)
    · refine x_iconst (v := nI 1) C dX11_side_53 (by decide +kernel) ?_
      refine x_goto (tgt := 58) C dX11_side_54 (by decide) ?_
      refine x_sub (lv' := _) [0, 1, 2, 3, 4, 5] rfl ?_
      exact J58 true ⟨fun _ => by first | exact Or.inl (bI_T c41) | exact Or.inr (hq.mp (bI_T c50)), fun _ => rfl⟩

