/-! ===== the model: read ===== -/
set_option maxHeartbeats 4000000 in
set_option maxRecDepth 100000 in
theorem no_X11_read {l : Launch} {a0 : Nat} {D : va_G} {sa : Nat → Nat} {T : Nat → Option hKd} {I : Nat → Nat → Int32} {L : Nat → Nat → Int64} {R : Nat → Nat → Option Nat} {A : Nat → Nat} (ns : Nat) (hns : I 63 33 = nI ns) (hn4 : ns ≤ 4) (mO : isM T R A a0) (hc : shC I) (h13 : h13Z I) (s : Nat) (hs : s < ns) (p : Nat) (hp8 : p < 8) (kn : Nat → Bool) (ms : Nat) (sz : Nat → Nat) (tk : Nat → Nat → Nat) (hp : mdP I p kn ms sz tk) (hp34 : I 34 s = nI p) (σ : sgT) (nx : Nat) (hE : mdE σ I s (decide (ms ≤ nx))) (hb : bS σ) (hnx : σ 7 13 = nI nx) (hn6 : nx ≤ ms) (ha : Nat) (hha : I 35 s = nI ha) (ha2 : ha < 2) (hnm : nx < ms) (hnh : nx % 2 = ha) : hM l a0 D sa yX11_read cX11_read 3 (some .int) { frames := 2, cells := 0, slots := 0, locals := 43 } [.ref (A 63), .int (nI s)] (T, I, L, R, A) (fun r G' => r = some (.int (-3)) ∧ G' = (T, I, L, R, A)) := by
  refine hM.of (by decide +kernel) (Nat.le_of_ble_eq_true rfl) ?_
  intro z hl h0 hD hS hN C E
  subst hl; subst h0; subst hD; subst hS
  have C : hC z RX11 cX11_read := C
  have hZ := E.2.2.2.1
  show hX z 0 0 (T, I, L, R, A) [(0, .ref (A 63)), (1, .int (nI s))] 0 []
  have hs5 : s < 5 := by omega
  have hm6 := hp.2.2.2.2.1
  refine x_aload_n C dX11_read_0 0 rfl rfl ?_
  refine x_iload_n C dX11_read_1 1 rfl rfl ?_
  refine x_callV C (ok_X11_isSide mO ns hns hn4 s hs) mv_X11_isSide ml_X11_415 mO.1 rfl rfl rfl (Nat.le_of_ble_eq_true rfl) (hrm (rm := { frames := 0, cells := 0, slots := 0, locals := 0 }) hZ ⟨Nat.le_of_ble_eq_true rfl, Nat.le_of_ble_eq_true rfl⟩) (hcs hZ ⟨Nat.le_of_ble_eq_true rfl, Nat.le_of_ble_eq_true rfl⟩) dX11_read_2 (fun v G' hp => ?_)
  obtain ⟨rfl, rfl⟩ := hp
  show hX z 0 0 (T, I, L, R, A) [(0, .ref (A 63)), (1, .int (nI s))] 5 [.int (nI 1)]
  refine x_if_neN (tgt := 11) C (by omega) dX11_read_5 (by decide) (fun c5 => ?_) (fun c5 => absurd c5 (by omega))
  refine x_aload_n C dX11_read_11 0 rfl rfl ?_
  refine x_getrN C fl_X11_198 mO.1 rfl (mO.2.2 41 _ rfl).1 dX11_read_12 ?_
  refine x_iload_n C dX11_read_15 1 rfl rfl ?_
  refine x_zaldN C (mO.2.2 41 _ rfl).2.1 (by omega) (by omega) dX11_read_16 ?_
  refine x_eqi (y := nI 0) (hE.2.2.2.2.2.2.2.2.2.trans (by rw [decide_eq_false (by omega)]; rfl)) ?_
  refine x_if_eqN (tgt := 26) C (by omega) dX11_read_17 (by decide) (fun c17 => ?_) (fun c17 => absurd c17 (by omega))
  refine x_aload_n C dX11_read_26 0 rfl rfl ?_
  refine x_getrN C fl_X11_195 mO.1 rfl (mO.2.2 40 _ rfl).1 dX11_read_27 ?_
  refine x_iload_n C dX11_read_30 1 rfl rfl ?_
  refine x_ialdN C (mO.2.2 40 _ rfl).2.1 (by omega) (by omega) dX11_read_31 ?_
  refine x_eqi (y := nI nx) (hE.2.2.2.2.2.2.2.1.2.2.2.2.2.trans hnx) ?_
  refine x_iconst (v := nI 2) C dX11_read_32 (by decide +kernel) ?_
  refine x_iremN C (by omega) (by omega) (by omega) dX11_read_33 ?_
  refine x_aload_n C dX11_read_34 0 rfl rfl ?_
  refine x_getrN C fl_X11_180 mO.1 rfl (mO.2.2 35 _ rfl).1 dX11_read_35 ?_
  refine x_iload_n C dX11_read_38 1 rfl rfl ?_
  refine x_ialdN C (mO.2.2 35 _ rfl).2.1 (by omega) (by omega) dX11_read_39 ?_
  refine x_eqi (y := nI ha) hha ?_
  refine x_icmp_neN (tgt := 46) C (by omega) (by omega) dX11_read_40 (by decide) (fun c40 => absurd c40 (by omega)) (fun c40 => ?_)
  refine x_bipush (v := (-3)) C dX11_read_43 (by decide +kernel) ?_
  exact x_iret C E (Nat.le_of_ble_eq_true rfl) (Nat.le_of_ble_eq_true rfl) dX11_read_45 (⟨rfl, rfl⟩)

set_option maxHeartbeats 4000000 in
set_option maxRecDepth 100000 in
theorem sh_X11_read {l : Launch} {a0 : Nat} {D : va_G} {sa : Nat → Nat} {T : Nat → Option hKd} {I : Nat → Nat → Int32} {L : Nat → Nat → Int64} {R : Nat → Nat → Option Nat} {A : Nat → Nat} (ns : Nat) (hns : I 63 33 = nI ns) (hn4 : ns ≤ 4) (mO : isM T R A a0) (hc : shC I) (h13 : h13Z I) (s : Nat) (hs : s < ns) (p : Nat) (hp8 : p < 8) (kn : Nat → Bool) (ms : Nat) (sz : Nat → Nat) (tk : Nat → Nat → Nat) (hp : mdP I p kn ms sz tk) (hp34 : I 34 s = nI p) (σ : sgT) (nx : Nat) (hE : mdE σ I s (decide (ms ≤ nx))) (hb : bS σ) (hnx : σ 7 13 = nI nx) (hn6 : nx ≤ ms) (ha : Nat) (hha : I 35 s = nI ha) (ha2 : ha < 2) (ln : Nat) (hln : I 63 58 = nI ln) (hl160 : ln ≤ 160) (lt : Nat → Int32) (hlt : ∀ j, j < ln → I 57 j = lt j) (hlb : ∀ j, j < ln → byt (lt j) < 256) (hdn : ms ≤ nx) (hsh : ln < 16) : hM l a0 D sa yX11_read cX11_read 3 (some .int) { frames := 5, cells := 0, slots := 0, locals := 124 } [.ref (A 63), .int (nI s)] (T, I, L, R, A) (fun r G' => r = some (.int (-5)) ∧ G' = (T, I, L, R, A)) := by
  refine hM.of (by decide +kernel) (Nat.le_of_ble_eq_true rfl) ?_
  intro z hl h0 hD hS hN C E
  subst hl; subst h0; subst hD; subst hS
  have C : hC z RX11 cX11_read := C
  have hZ := E.2.2.2.1
  show hX z 0 0 (T, I, L, R, A) [(0, .ref (A 63)), (1, .int (nI s))] 0 []
  have hs5 : s < 5 := by omega
  have hm6 := hp.2.2.2.2.1
  have hE1 : mdE σ I s true := by have h := hE; rw [decide_eq_true hdn] at h; exact h
  refine x_aload_n C dX11_read_0 0 rfl rfl ?_
  refine x_iload_n C dX11_read_1 1 rfl rfl ?_
  refine x_callV C (ok_X11_isSide mO ns hns hn4 s hs) mv_X11_isSide ml_X11_415 mO.1 rfl rfl rfl (Nat.le_of_ble_eq_true rfl) (hrm (rm := { frames := 0, cells := 0, slots := 0, locals := 0 }) hZ ⟨Nat.le_of_ble_eq_true rfl, Nat.le_of_ble_eq_true rfl⟩) (hcs hZ ⟨Nat.le_of_ble_eq_true rfl, Nat.le_of_ble_eq_true rfl⟩) dX11_read_2 (fun v G' hp => ?_)
  obtain ⟨rfl, rfl⟩ := hp
  show hX z 0 0 (T, I, L, R, A) [(0, .ref (A 63)), (1, .int (nI s))] 5 [.int (nI 1)]
  refine x_if_neN (tgt := 11) C (by omega) dX11_read_5 (by decide) (fun c5 => ?_) (fun c5 => absurd c5 (by omega))
  refine x_aload_n C dX11_read_11 0 rfl rfl ?_
  refine x_getrN C fl_X11_198 mO.1 rfl (mO.2.2 41 _ rfl).1 dX11_read_12 ?_
  refine x_iload_n C dX11_read_15 1 rfl rfl ?_
  refine x_zaldN C (mO.2.2 41 _ rfl).2.1 (by omega) (by omega) dX11_read_16 ?_
  refine x_eqi (y := nI 1) (hE.2.2.2.2.2.2.2.2.2.trans (by rw [decide_eq_true hdn]; rfl)) ?_
  refine x_if_eqN (tgt := 26) C (by omega) dX11_read_17 (by decide) (fun c17 => absurd c17 (by omega)) (fun c17 => ?_)
  refine x_aload_n C dX11_read_20 0 rfl rfl ?_
  refine x_iload_n C dX11_read_21 1 rfl rfl ?_
  refine x_callV C (sh_X11_readsDone mO hc s hs5 σ hE1 ln hln hl160 lt hlt hlb hsh) mv_X11_readsDone ml_X11_463 mO.1 rfl rfl rfl (Nat.le_of_ble_eq_true rfl) (hrm (rm := { frames := 0, cells := 0, slots := 0, locals := 0 }) hZ ⟨Nat.le_of_ble_eq_true rfl, Nat.le_of_ble_eq_true rfl⟩) (hcs hZ ⟨Nat.le_of_ble_eq_true rfl, Nat.le_of_ble_eq_true rfl⟩) dX11_read_22 (fun v G' hp => ?_)
  obtain ⟨rfl, rfl⟩ := hp
  show hX z 0 0 (T, I, L, R, A) [(0, .ref (A 63)), (1, .int (nI s))] 25 [.int (-5)]
  exact x_iret C E (Nat.le_of_ble_eq_true rfl) (Nat.le_of_ble_eq_true rfl) dX11_read_25 (⟨rfl, rfl⟩)

set_option maxHeartbeats 4000000 in
set_option maxRecDepth 100000 in
theorem dn_X11_read {l : Launch} {a0 : Nat} {D : va_G} {sa : Nat → Nat} {T : Nat → Option hKd} {I : Nat → Nat → Int32} {L : Nat → Nat → Int64} {R : Nat → Nat → Option Nat} {A : Nat → Nat} (ns : Nat) (hns : I 63 33 = nI ns) (hn4 : ns ≤ 4) (mO : isM T R A a0) (hc : shC I) (h13 : h13Z I) (s : Nat) (hs : s < ns) (p : Nat) (hp8 : p < 8) (kn : Nat → Bool) (ms : Nat) (sz : Nat → Nat) (tk : Nat → Nat → Nat) (hp : mdP I p kn ms sz tk) (hp34 : I 34 s = nI p) (σ : sgT) (nx : Nat) (hE : mdE σ I s (decide (ms ≤ nx))) (hb : bS σ) (hnx : σ 7 13 = nI nx) (hn6 : nx ≤ ms) (ha : Nat) (hha : I 35 s = nI ha) (ha2 : ha < 2) (ln : Nat) (hln : I 63 58 = nI ln) (hl160 : ln ≤ 160) (lt : Nat → Int32) (hlt : ∀ j, j < ln → I 57 j = lt j) (hlb : ∀ j, j < ln → byt (lt j) < 256) (hdn : ms ≤ nx) (h16 : 16 ≤ ln) : hM l a0 D sa yX11_read cX11_read 3 (some .int) { frames := 5, cells := 0, slots := 0, locals := 124 } [.ref (A 63), .int (nI s)] (T, I, L, R, A) (fun r G' => ∃ I', G' = (T, I', L, R, A) ∧ I' 57 = I 57 ∧ ((dnO σ lt ln = false ∧ r = some (.int (-6)) ∧ mdE σ I' s true ∧ mF 5 s I I' ∧ I' 59 = I 59) ∨ (dnO σ lt ln = true ∧ r = some (.int (nI (ln - 16))) ∧ mdE (sFl σ 11 (σ 7 11 + 1)) I' s true ∧ (∀ j, j < ln - 16 → I' 59 j = dnG σ lt j) ∧ I' 63 60 = nI (ln - 16) ∧ mFr 5 s I I'))) := by
  refine hM.of (by decide +kernel) (Nat.le_of_ble_eq_true rfl) ?_
  intro z hl h0 hD hS hN C E
  subst hl; subst h0; subst hD; subst hS
  have C : hC z RX11 cX11_read := C
  have hZ := E.2.2.2.1
  show hX z 0 0 (T, I, L, R, A) [(0, .ref (A 63)), (1, .int (nI s))] 0 []
  have hs5 : s < 5 := by omega
  have hm6 := hp.2.2.2.2.1
  have hE1 : mdE σ I s true := by have h := hE; rw [decide_eq_true hdn] at h; exact h
  refine x_aload_n C dX11_read_0 0 rfl rfl ?_
  refine x_iload_n C dX11_read_1 1 rfl rfl ?_
  refine x_callV C (ok_X11_isSide mO ns hns hn4 s hs) mv_X11_isSide ml_X11_415 mO.1 rfl rfl rfl (Nat.le_of_ble_eq_true rfl) (hrm (rm := { frames := 0, cells := 0, slots := 0, locals := 0 }) hZ ⟨Nat.le_of_ble_eq_true rfl, Nat.le_of_ble_eq_true rfl⟩) (hcs hZ ⟨Nat.le_of_ble_eq_true rfl, Nat.le_of_ble_eq_true rfl⟩) dX11_read_2 (fun v G' hp => ?_)
  obtain ⟨rfl, rfl⟩ := hp
  show hX z 0 0 (T, I, L, R, A) [(0, .ref (A 63)), (1, .int (nI s))] 5 [.int (nI 1)]
  refine x_if_neN (tgt := 11) C (by omega) dX11_read_5 (by decide) (fun c5 => ?_) (fun c5 => absurd c5 (by omega))
  refine x_aload_n C dX11_read_11 0 rfl rfl ?_
  refine x_getrN C fl_X11_198 mO.1 rfl (mO.2.2 41 _ rfl).1 dX11_read_12 ?_
  refine x_iload_n C dX11_read_15 1 rfl rfl ?_
  refine x_zaldN C (mO.2.2 41 _ rfl).2.1 (by omega) (by omega) dX11_read_16 ?_
  refine x_eqi (y := nI 1) (hE.2.2.2.2.2.2.2.2.2.trans (by rw [decide_eq_true hdn]; rfl)) ?_
  refine x_if_eqN (tgt := 26) C (by omega) dX11_read_17 (by decide) (fun c17 => absurd c17 (by omega)) (fun c17 => ?_)
  refine x_aload_n C dX11_read_20 0 rfl rfl ?_
  refine x_iload_n C dX11_read_21 1 rfl rfl ?_
  refine x_callV C (ok_X11_readsDone mO hc s hs5 σ hE1 ln hln hl160 lt hlt hlb h16) mv_X11_readsDone ml_X11_463 mO.1 rfl rfl rfl (Nat.le_of_ble_eq_true rfl) (hrm (rm := { frames := 0, cells := 0, slots := 0, locals := 0 }) hZ ⟨Nat.le_of_ble_eq_true rfl, Nat.le_of_ble_eq_true rfl⟩) (hcs hZ ⟨Nat.le_of_ble_eq_true rfl, Nat.le_of_ble_eq_true rfl⟩) dX11_read_22 (fun v G' hp => ?_)
  obtain ⟨J1, rfl, j57, hq⟩ := hp
  rcases hq with ⟨g1, rfl, g2, g3, g4⟩ | ⟨g1, rfl, g2, g3, g4, g5⟩
  · show hX z 0 0 (T, J1, L, R, A) [(0, .ref (A 63)), (1, .int (nI s))] 25 [.int (-6)]
    exact x_iret C E (Nat.le_of_ble_eq_true rfl) (Nat.le_of_ble_eq_true rfl) dX11_read_25 (⟨J1, rfl, j57, Or.inl ⟨g1, rfl, g2, g3, g4⟩⟩)
  · show hX z 0 0 (T, J1, L, R, A) [(0, .ref (A 63)), (1, .int (nI s))] 25 [.int (nI (ln - 16))]
    exact x_iret C E (Nat.le_of_ble_eq_true rfl) (Nat.le_of_ble_eq_true rfl) dX11_read_25 (⟨J1, rfl, j57, Or.inr ⟨g1, rfl, g2, g3, g4, g5⟩⟩)

theorem or2x {N A B C D E F : Prop} (h : (N ∧ (A ∨ B) ∧ C ∧ D ∧ E) ∨ F) : (N ∧ A ∧ C ∧ D ∧ E) ∨ (N ∧ B ∧ C ∧ D ∧ E) ∨ F := by
  rcases h with ⟨n, a | b, c⟩ | f
  · exact Or.inl ⟨n, a, c⟩
  · exact Or.inr (Or.inl ⟨n, b, c⟩)
  · exact Or.inr (Or.inr f)
theorem mdP.fx {I J : Nat → Nat → Int32} {p ms : Nat} {kn : Nat → Bool} {sz : Nat → Nat} {tk : Nat → Nat → Nat} (h : mdP I p kn ms sz tk) (f : fx [39, 40, 41, 42, 43, 44, 45, 46, 47, 48, 49, 50, 52, 53, 54] I J) : mdP J p kn ms sz tk := by
  unfold mdP
  rw [f 25 (by decide), f 26 (by decide), f 27 (by decide), f 28 (by decide)]
  exact h
set_option maxHeartbeats 4000000 in
set_option maxRecDepth 100000 in
theorem ok_X11_read {l : Launch} {a0 : Nat} {D : va_G} {sa : Nat → Nat} {T : Nat → Option hKd} {I : Nat → Nat → Int32} {L : Nat → Nat → Int64} {R : Nat → Nat → Option Nat} {A : Nat → Nat} (ns : Nat) (hns : I 63 33 = nI ns) (hn4 : ns ≤ 4) (mO : isM T R A a0) (hc : shC I) (h13 : h13Z I) (s : Nat) (hs : s < ns) (p : Nat) (hp8 : p < 8) (kn : Nat → Bool) (ms : Nat) (sz : Nat → Nat) (tk : Nat → Nat → Nat) (hp : mdP I p kn ms sz tk) (hp34 : I 34 s = nI p) (σ : sgT) (nx : Nat) (hE : mdE σ I s (decide (ms ≤ nx))) (hb : bS σ) (hnx : σ 7 13 = nI nx) (hn6 : nx ≤ ms) (ha : Nat) (hha : I 35 s = nI ha) (ha2 : ha < 2) (sec : Nat → Int32) (hsec : mR I 51 s sec) (ln : Nat) (hln : I 63 58 = nI ln) (hl160 : ln ≤ 160) (lt : Nat → Int32) (hlt : ∀ j, j < ln → I 57 j = lt j) (hlb : ∀ j, j < ln → byt (lt j) < 256) (hnm : nx < ms) (hnh : nx % 2 ≠ ha) (hx : ∀ k τ a, k < sz nx → rdK sec ha lt ln (tk nx) σ k = some (τ, a) → 2 ≤ tk nx k → xEb (tk nx k) ha = false → τ 7 9 = nI 1)  : hM l a0 D sa yX11_read cX11_read 3 (some .int) { frames := 8, cells := 0, slots := 0, locals := 200 } [.ref (A 63), .int (nI s)] (T, I, L, R, A) (fun r G' => ∃ I' L', G' = (T, I', L', R, A) ∧ ((rdM sec ha ms nx (tk nx) (sz nx) lt ln σ = none ∧ (r = some (.int (-5)) ∨ r = some (.int (-6))) ∧ mdE σ I' s false ∧ mF 4 s I I' ∧ I' 57 = I 57 ∧ I' 59 = I 59) ∨ (∃ M, rdM sec ha ms nx (tk nx) (sz nx) lt ln σ = some M ∧ r = some (.int (nI M.2.2)) ∧ M.2.2 ≤ 160 ∧ mdE M.1 I' s (decide (ms ≤ nx + 1)) ∧ (∀ j, j < M.2.2 → I' 59 j = M.2.1 j) ∧ I' 63 60 = nI M.2.2 ∧ I' 57 = I 57 ∧ mFr 4 s I I'))) := by
  refine hM.of (by decide +kernel) (Nat.le_of_ble_eq_true rfl) ?_
  intro z hl h0 hD hS hN C E
  subst hl; subst h0; subst hD; subst hS
  have C : hC z RX11 cX11_read := C
  have hZ := E.2.2.2.1
  show hX z 0 0 (T, I, L, R, A) [(0, .ref (A 63)), (1, .int (nI s))] 0 []
  have hs5 : s < 5 := by omega
  have hm6 := hp.2.2.2.2.1
  have hE1 : mdE σ I s false := by have h := hE; rw [decide_eq_false (by omega)] at h; exact h
  refine x_aload_n C dX11_read_0 0 rfl rfl ?_
  refine x_iload_n C dX11_read_1 1 rfl rfl ?_
  refine x_callV C (ok_X11_isSide mO ns hns hn4 s hs) mv_X11_isSide ml_X11_415 mO.1 rfl rfl rfl (Nat.le_of_ble_eq_true rfl) (hrm (rm := { frames := 0, cells := 0, slots := 0, locals := 0 }) hZ ⟨Nat.le_of_ble_eq_true rfl, Nat.le_of_ble_eq_true rfl⟩) (hcs hZ ⟨Nat.le_of_ble_eq_true rfl, Nat.le_of_ble_eq_true rfl⟩) dX11_read_2 (fun v G' hp => ?_)
  obtain ⟨rfl, rfl⟩ := hp
  show hX z 0 0 (T, I, L, R, A) [(0, .ref (A 63)), (1, .int (nI s))] 5 [.int (nI 1)]
  refine x_if_neN (tgt := 11) C (by omega) dX11_read_5 (by decide) (fun c5 => ?_) (fun c5 => absurd c5 (by omega))
  refine x_aload_n C dX11_read_11 0 rfl rfl ?_
  refine x_getrN C fl_X11_198 mO.1 rfl (mO.2.2 41 _ rfl).1 dX11_read_12 ?_
  refine x_iload_n C dX11_read_15 1 rfl rfl ?_
  refine x_zaldN C (mO.2.2 41 _ rfl).2.1 (by omega) (by omega) dX11_read_16 ?_
  refine x_eqi (y := nI 0) (hE.2.2.2.2.2.2.2.2.2.trans (by rw [decide_eq_false (by omega)]; rfl)) ?_
  refine x_if_eqN (tgt := 26) C (by omega) dX11_read_17 (by decide) (fun c17 => ?_) (fun c17 => absurd c17 (by omega))
  refine x_aload_n C dX11_read_26 0 rfl rfl ?_
  refine x_getrN C fl_X11_195 mO.1 rfl (mO.2.2 40 _ rfl).1 dX11_read_27 ?_
  refine x_iload_n C dX11_read_30 1 rfl rfl ?_
  refine x_ialdN C (mO.2.2 40 _ rfl).2.1 (by omega) (by omega) dX11_read_31 ?_
  refine x_eqi (y := nI nx) (hE.2.2.2.2.2.2.2.1.2.2.2.2.2.trans hnx) ?_
  refine x_iconst (v := nI 2) C dX11_read_32 (by decide +kernel) ?_
  refine x_iremN C (by omega) (by omega) (by omega) dX11_read_33 ?_
  refine x_aload_n C dX11_read_34 0 rfl rfl ?_
  refine x_getrN C fl_X11_180 mO.1 rfl (mO.2.2 35 _ rfl).1 dX11_read_35 ?_
  refine x_iload_n C dX11_read_38 1 rfl rfl ?_
  refine x_ialdN C (mO.2.2 35 _ rfl).2.1 (by omega) (by omega) dX11_read_39 ?_
  refine x_eqi (y := nI ha) hha ?_
  refine x_icmp_neN (tgt := 46) C (by omega) (by omega) dX11_read_40 (by decide) (fun c40 => ?_) (fun c40 => absurd c40 (by omega))
  refine x_aload_n C dX11_read_46 0 rfl rfl ?_
  refine x_iconst (v := nI 4) C dX11_read_47 (by decide +kernel) ?_
  refine x_iload_n C dX11_read_48 1 rfl rfl ?_
  refine x_callV C (ok_X11_copySide mO 4 s (by decide) hs5 (by omega) (by intro q hq; simp at hq; rcases hq with rfl | rfl | rfl | rfl; exact hE1.2.2.2.2.2.2.2.2.2 ▸ bI_01 _; exact hE1.2.2.2.2.2.2.2.1.1 ▸ hb.2.2.2 7 (by decide) (by decide); exact hE1.2.2.2.2.2.2.2.1.2.1 ▸ hb.2.2.2 8 (by decide) (by decide); exact hE1.2.2.2.2.2.2.2.1.2.2.1 ▸ hb.2.2.2 9 (by decide) (by decide))) mv_X11_copySide ml_X11_466 mO.1 rfl rfl rfl (Nat.le_of_ble_eq_true rfl) (hrm (rm := { frames := 0, cells := 0, slots := 0, locals := 0 }) hZ ⟨Nat.le_of_ble_eq_true rfl, Nat.le_of_ble_eq_true rfl⟩) (hcs hZ ⟨Nat.le_of_ble_eq_true rfl, Nat.le_of_ble_eq_true rfl⟩) dX11_read_49 (fun v G' hp => ?_)
  obtain ⟨rfl, J1, rfl, c1, c2, c3⟩ := hp
  have e4 := c1 σ false hE1
  have eS := hE1.ot c2 hs5 (by omega)
  show hX z 0 0 (T, J1, L, R, A) [(0, .ref (A 63)), (1, .int (nI s))] 52 []
  refine x_aload_n C dX11_read_52 0 rfl rfl ?_
  refine x_iload_n C dX11_read_53 1 rfl rfl ?_
  refine x_callV C (ok_X11_reads mO (c2.c hc) s hs5 (c2.2.2.1 h13) p hp8 kn ms sz tk (mdP.fx hp c3) (by rw [c3 34 (by decide)]; exact hp34) σ nx eS hb hnx hn6 ha (by rw [c3 35 (by decide)]; exact hha) ha2 sec (hsec.o (c3 51 (by decide))) ln (by rw [c2.2.1 58 (by decide)]; exact hln) hl160 lt (fun j hj => by rw [c3 57 (by decide)]; exact hlt j hj) hlb hnm hx) mv_X11_reads ml_X11_469 mO.1 rfl rfl rfl (Nat.le_of_ble_eq_true rfl) (hrm (rm := { frames := 0, cells := 0, slots := 0, locals := 0 }) hZ ⟨Nat.le_of_ble_eq_true rfl, Nat.le_of_ble_eq_true rfl⟩) (hcs hZ ⟨Nat.le_of_ble_eq_true rfl, Nat.le_of_ble_eq_true rfl⟩) dX11_read_54 (fun v G' hp => ?_)
  obtain ⟨J2, K2, rfl, hq⟩ := hp
  rcases (or2x hq) with ⟨n0, rfl, b1, b2, b3⟩ | ⟨n0, rfl, b1, b2, b3⟩ | ⟨M, n0, rfl, n1, n2, n3, n4, n5, n6⟩
  · have e5 := e4.ot b1 (by decide) (by omega)
    show hX z 0 0 (T, J2, K2, R, A) [(0, .ref (A 63)), (1, .int (nI s))] 57 [.int (-5)]
    refine x_istore_n (lv' := [(2, .int (-5)), (0, .ref (A 63)), (1, .int (nI s))]) C dX11_read_57 rfl (Nat.lt_of_lt_of_eq (by decide) hN.symm) rfl ?_
    refine x_iload_n C dX11_read_58 0 rfl rfl ?_
    refine x_if_ge (tgt := 68) C dX11_read_59 (by decide) (fun c59 => absurd c59 (by decide +kernel)) (fun c59 => ?_)
    refine x_aload_n C dX11_read_62 1 rfl rfl ?_
    refine x_iload_n C dX11_read_63 2 rfl rfl ?_
    refine x_iconst (v := nI 4) C dX11_read_64 (by decide +kernel) ?_
    refine x_callV C (ok_X11_copySide mO s 4 hs5 (by decide) (by omega) (by intro q hq; simp at hq; rcases hq with rfl | rfl | rfl | rfl; exact e5.2.2.2.2.2.2.2.2.2 ▸ bI_01 _; exact e5.2.2.2.2.2.2.2.1.1 ▸ hb.2.2.2 7 (by decide) (by decide); exact e5.2.2.2.2.2.2.2.1.2.1 ▸ hb.2.2.2 8 (by decide) (by decide); exact e5.2.2.2.2.2.2.2.1.2.2.1 ▸ hb.2.2.2 9 (by decide) (by decide))) mv_X11_copySide ml_X11_466 mO.1 rfl rfl rfl (Nat.le_of_ble_eq_true rfl) (hrm (rm := { frames := 0, cells := 0, slots := 0, locals := 0 }) hZ ⟨Nat.le_of_ble_eq_true rfl, Nat.le_of_ble_eq_true rfl⟩) (hcs hZ ⟨Nat.le_of_ble_eq_true rfl, Nat.le_of_ble_eq_true rfl⟩) dX11_read_65 (fun v G' hp => ?_)
    obtain ⟨rfl, J3, rfl, d1, d2, d3⟩ := hp
    show hX z 0 0 (T, J3, K2, R, A) [(2, .int (-5)), (0, .ref (A 63)), (1, .int (nI s))] 68 []
    refine x_iload_n C dX11_read_68 0 rfl rfl ?_
    exact x_iret C E (Nat.le_of_ble_eq_true rfl) (Nat.le_of_ble_eq_true rfl) dX11_read_69 (⟨J3, K2, rfl, Or.inl ⟨n0, Or.inl rfl, d1 σ false e5, (c2.w4.tr b1.n4).tr d2.n4, by rw [d3 57 (by decide), b2, c3 57 (by decide)], by rw [d3 59 (by decide), b3, c3 59 (by decide)]⟩⟩)
  · have e5 := e4.ot b1 (by decide) (by omega)
    show hX z 0 0 (T, J2, K2, R, A) [(0, .ref (A 63)), (1, .int (nI s))] 57 [.int (-6)]
    refine x_istore_n (lv' := [(2, .int (-6)), (0, .ref (A 63)), (1, .int (nI s))]) C dX11_read_57 rfl (Nat.lt_of_lt_of_eq (by decide) hN.symm) rfl ?_
    refine x_iload_n C dX11_read_58 0 rfl rfl ?_
    refine x_if_ge (tgt := 68) C dX11_read_59 (by decide) (fun c59 => absurd c59 (by decide +kernel)) (fun c59 => ?_)
    refine x_aload_n C dX11_read_62 1 rfl rfl ?_
    refine x_iload_n C dX11_read_63 2 rfl rfl ?_
    refine x_iconst (v := nI 4) C dX11_read_64 (by decide +kernel) ?_
    refine x_callV C (ok_X11_copySide mO s 4 hs5 (by decide) (by omega) (by intro q hq; simp at hq; rcases hq with rfl | rfl | rfl | rfl; exact e5.2.2.2.2.2.2.2.2.2 ▸ bI_01 _; exact e5.2.2.2.2.2.2.2.1.1 ▸ hb.2.2.2 7 (by decide) (by decide); exact e5.2.2.2.2.2.2.2.1.2.1 ▸ hb.2.2.2 8 (by decide) (by decide); exact e5.2.2.2.2.2.2.2.1.2.2.1 ▸ hb.2.2.2 9 (by decide) (by decide))) mv_X11_copySide ml_X11_466 mO.1 rfl rfl rfl (Nat.le_of_ble_eq_true rfl) (hrm (rm := { frames := 0, cells := 0, slots := 0, locals := 0 }) hZ ⟨Nat.le_of_ble_eq_true rfl, Nat.le_of_ble_eq_true rfl⟩) (hcs hZ ⟨Nat.le_of_ble_eq_true rfl, Nat.le_of_ble_eq_true rfl⟩) dX11_read_65 (fun v G' hp => ?_)
    obtain ⟨rfl, J3, rfl, d1, d2, d3⟩ := hp
    show hX z 0 0 (T, J3, K2, R, A) [(2, .int (-6)), (0, .ref (A 63)), (1, .int (nI s))] 68 []
    refine x_iload_n C dX11_read_68 0 rfl rfl ?_
    exact x_iret C E (Nat.le_of_ble_eq_true rfl) (Nat.le_of_ble_eq_true rfl) dX11_read_69 (⟨J3, K2, rfl, Or.inl ⟨n0, Or.inr rfl, d1 σ false e5, (c2.w4.tr b1.n4).tr d2.n4, by rw [d3 57 (by decide), b2, c3 57 (by decide)], by rw [d3 59 (by decide), b3, c3 59 (by decide)]⟩⟩)
  · show hX z 0 0 (T, J2, K2, R, A) [(0, .ref (A 63)), (1, .int (nI s))] 57 [.int (nI M.2.2)]
    refine x_istore_n (lv' := [(2, .int (nI M.2.2)), (0, .ref (A 63)), (1, .int (nI s))]) C dX11_read_57 rfl (Nat.lt_of_lt_of_eq (by decide) hN.symm) rfl ?_
    refine x_iload_n C dX11_read_58 0 rfl rfl ?_
    refine x_if_geN (tgt := 68) C (by omega) dX11_read_59 (by decide) ?_
    refine x_iload_n C dX11_read_68 0 rfl rfl ?_
    exact x_iret C E (Nat.le_of_ble_eq_true rfl) (Nat.le_of_ble_eq_true rfl) dX11_read_69 (by
          obtain ⟨Kx, k1, k2, k3⟩ := n6
          exact ⟨J2, K2, rfl, Or.inr ⟨M, n0, rfl, n1, n2, n3, n4, n5.trans (c3 57 (by decide)), Kx, c2.w4.tr k1.n4, k2, k3⟩⟩)

