/-! ===== Talk: seal, open ===== -/
theorem mixF_cg {h h' x x' : Nat → Int32} {n : Nat} (hh : ∀ i, i < 32 → h i = h' i) (hx : ∀ i, i < n → x i = x' i) : mixF h x n = mixF h' x' n := by
  unfold mixF
  refine shaH_congr (fun i hi => ?_)
  unfold hmC
  by_cases h1 : i < 32
  · rw [if_pos h1, if_pos h1, hh i h1]
  · rw [if_neg h1, if_neg h1, hx _ (by omega)]
theorem byt_mix (h x : Nat → Int32) (n j : Nat) : byt (mixF h x n j) < 256 := byt_255 _
theorem byt_sec (v jv : Int32) (j : Nat) : byt (secF v jv j) < 256 := byt_255 _
def slN (hk : Bool) (m : Nat) : Nat := if hk then m + 16 else m
def slF (hk : Bool) (K : Nat → Int32) (n : Int32) (am : Nat) (X : Nat → Nat) (f : Nat → Int32) (m j : Nat) : Int32 := if hk then encF K n am X f m j else f j
theorem slF_cg {hk : Bool} {K K' f f' : Nat → Int32} {n : Int32} {am m : Nat} {X X' : Nat → Nat} (hk' : ∀ i, i < 32 → K i = K' i) (hx : ∀ j, j < am → X j = X' j) (hf : ∀ j, j < m → f j = f' j) (j : Nat) (hj : j < slN hk m) : slF hk K n am X f m j = slF hk K' n am X' f' m j := by
  cases hk with
  | true => exact encF_cg hk' hx hf j
  | false => exact hf j hj
theorem byt_sl {hk : Bool} {K f : Nat → Int32} {n : Int32} {am m : Nat} {X : Nat → Nat} (hf : ∀ j, j < m → byt (f j) < 256) (j : Nat) (hj : j < slN hk m) : byt (slF hk K n am X f m j) < 256 := by
  cases hk with
  | true => exact byt_enc hf j
  | false => exact hf j hj
theorem isB_32 {f g : Nat → Int32} (h : ∀ j, j < 32 → byt (f j) < 256) (e : g = f) : ∀ j, j < 32 → byt (g j) < 256 := by rw [e]; exact h
set_option maxHeartbeats 4000000 in
set_option maxRecDepth 100000 in
theorem ok_X9_seal {l : Launch} {a0 : Nat} {D : va_G} {sa : Nat → Nat} {T : Nat → Option hKd} {I : Nat → Nat → Int32} {L : Nat → Nat → Int64} {R : Nat → Nat → Option Nat} {A : Nat → Nat} (xO : isX T R A a0) (hsa : ∀ k, k < 5 → sa k = A (90 + k)) (u : Nat) (hu : isSt T R A a0 u) (hu143 : 143 ≤ u) (hst : stI I) (x nx m s : Nat) (hTx : T x = some (.inl (.int, nx))) (hnx : nx < 2 ^ 31) (hmx : m ≤ nx) (hx : x = 104 ∨ 300 ≤ x) (hs : I 105 1 = nI s) (hfit : s + m + 16 ≤ 160) (hk : Bool) (nv : Int32) (hhk : I u 7 = bI hk) (hnv : I u 10 = nv) (hbx : ∀ j, j < m → byt (I x j) < 256) (hbh : ∀ j, j < 32 → byt (I (u + 1 + 1) j) < 256) : hM l a0 D sa yX9_seal cX9_seal 6 none { frames := 5, cells := 0, slots := 0, locals := 125 } [.ref (A 109), .ref (A u), .ref (A x), .int (nI m), .ref (A 105)] (T, I, L, R, A) (fun r G' => r = none ∧ ∃ I' L', G' = (T, I', L', R, A) ∧ (∀ j, j < slN hk m → I' 106 (s + j) = slF hk (I (u + 1 + 2)) nv 32 (fun j => byt (I (u + 1 + 1) j)) (I x) m j) ∧ (∀ t, t < s → I' 106 t = I 106 t) ∧ I' 105 = upd (I 105) 1 (nI (s + slN hk m)) ∧ (∀ j, j < 32 → I' (u + 1 + 1) j = mixF (I (u + 1 + 1)) (slF hk (I (u + 1 + 2)) nv 32 (fun j => byt (I (u + 1 + 1) j)) (I x) m) (slN hk m) j) ∧ I' u = upd (I u) 10 (if hk then nv + 1 else nv) ∧ fx [105, 106, 111, 112, 113, 133, 134, 135, 136, 141, 142, u, u + 1 + 1] I I' ∧ fy [138, 139, 140] L L') := by
  refine hM.of (by decide +kernel) (Nat.le_of_ble_eq_true rfl) ?_
  intro z hl h0 hD hS hN C E
  subst hl; subst h0; subst hD; subst hS
  have C : hC z RX9 cX9_seal := C
  have hZ := E.2.2.2.1
  show hX z 0 0 (T, I, L, R, A) [(0, .ref (A 109)), (1, .ref (A u)), (2, .ref (A x)), (3, .int (nI m)), (4, .ref (A 105))] 0 []
  refine x_aload C dX9_seal_0 4 rfl ?_
  refine x_getiN C fl_X9_162 (xO.1 105 _ rfl).1 rfl dX9_seal_2 ?_
  refine x_eqi (y := nI s) hs ?_
  refine x_istore (lv' := [(5, .int (nI s)), (0, .ref (A 109)), (1, .ref (A u)), (2, .ref (A x)), (3, .int (nI m)), (4, .ref (A 105))]) C dX9_seal_5 (Nat.lt_of_lt_of_eq (by decide) hN.symm) rfl ?_
  refine x_aload C dX9_seal_7 5 rfl ?_
  refine x_aload_n C dX9_seal_9 3 rfl rfl ?_
  refine x_iconst (v := nI 0) C dX9_seal_10 (by decide +kernel) ?_
  refine x_iload_n C dX9_seal_11 4 rfl rfl ?_
  refine x_callV C (ok_X4_putAll 105 106 160 s (xO.1 105 _ rfl).1 (xO.2.1 105 0 _ rfl) (xO.1 106 _ rfl).1 (by decide) hs (by omega) (xO.1 105 _ rfl).2 (xO.1 106 _ rfl).2 (by decide) x nx 0 m hTx hnx (by omega) hmx (by omega) (by omega) (by omega)) mv_X4_putAll ml_X9_204 (xO.1 105 _ rfl).1 rfl rfl rfl (Nat.le_of_ble_eq_true rfl) (hrm (rm := { frames := 0, cells := 0, slots := 0, locals := 0 }) hZ ⟨Nat.le_of_ble_eq_true rfl, Nat.le_of_ble_eq_true rfl⟩) (hcs hZ ⟨Nat.le_of_ble_eq_true rfl, Nat.le_of_ble_eq_true rfl⟩) dX9_seal_12 (fun v G' hp => ?_)
  obtain ⟨rfl, J1, rfl, r1, r2, r3⟩ := hp
  have x1 : ∀ j, j < m → J1 106 (s + j) = I x j := fun j hj => by rw [r1]; show (if s ≤ s + j ∧ s + j < s + (m - 0) then I x (0 + (s + j - s)) else _) = _; rw [if_pos (by omega), show 0 + (s + j - s) = j by omega]
  show hX z 0 0 (T, J1, L, R, A) [(5, .int (nI s)), (0, .ref (A 109)), (1, .ref (A u)), (2, .ref (A x)), (3, .int (nI m)), (4, .ref (A 105))] 15 []
  refine x_aload_n C dX9_seal_15 2 rfl rfl ?_
  refine x_getiN C fl_X9_135 hu.1 rfl dX9_seal_16 ?_
  refine x_eqi (y := bI hk) (by rw [r3 u (by simp; omega)]; exact hhk) ?_
  refine x_if_eq (tgt := 55) C dX9_seal_19 (by decide) (fun c19 => ?_) (fun c19 => ?_)
  · refine x_aload_n C dX9_seal_55 1 rfl rfl ?_
    refine x_aload_n C dX9_seal_56 2 rfl rfl ?_
    refine x_aload C dX9_seal_57 5 rfl ?_
    refine x_getrN C fl_X9_185 (xO.1 105 _ rfl).1 rfl (xO.2.1 105 0 _ rfl) dX9_seal_59 ?_
    refine x_iload C dX9_seal_62 0 rfl ?_
    refine x_aload C dX9_seal_64 5 rfl ?_
    refine x_getiN C fl_X9_162 (xO.1 105 _ rfl).1 rfl dX9_seal_66 ?_
    refine x_eqi (y := nI (s + m)) (by rw [r2]; simp [upd]) ?_
    refine x_callV C (ok_X9_mixHash xO hsa u (u + 1 + 1) 106 160 s (s + m) (r3.st (by intro k hk; simp; omega) hst) hu.1 (hu.2.2 1 (by decide)).1 (hu.2.2 1 (by decide)).2.1 (hu.2.2 1 (by decide)).2.2 (by omega) (xO.1 106 _ rfl).1 (by decide) (by omega) (by omega) (by decide)) mv_X9_mixHash ml_X9_158 (xO.1 109 _ rfl).1 rfl rfl rfl (Nat.le_of_ble_eq_true rfl) (hrm (rm := { frames := 0, cells := 0, slots := 0, locals := 0 }) hZ ⟨Nat.le_of_ble_eq_true rfl, Nat.le_of_ble_eq_true rfl⟩) (hcs hZ ⟨Nat.le_of_ble_eq_true rfl, Nat.le_of_ble_eq_true rfl⟩) dX9_seal_69 (fun v G' hp => ?_)
    obtain ⟨rfl, J5, rfl, h1, h2⟩ := hp
    show hX z 0 0 (T, J5, L, R, A) [(5, .int (nI s)), (0, .ref (A 109)), (1, .ref (A u)), (2, .ref (A x)), (3, .int (nI m)), (4, .ref (A 105))] 72 []
    exact x_vret C E (Nat.le_of_ble_eq_true rfl) (Nat.le_of_ble_eq_true rfl) dX9_seal_72 (by
        have ek := bI_F c19
        subst ek
        refine ⟨rfl, J5, L, rfl, fun j hj => ?_, fun t ht => ?_, ?_, fun j hj => ?_, ?_, (r3.wk (by simp)).tr h2 (by simp), fun _ _ => rfl⟩
        · rw [h2 106 (by simp; omega)]; exact x1 j hj
        · rw [h2 106 (by simp; omega), r1]; show (if s ≤ t ∧ t < s + (m - 0) then _ else I 106 t) = _; rw [if_neg (by omega)]
        · rw [h2 105 (by simp; omega), r2]; rfl
        · rw [h1]; simp only [hj, if_true]; rw [show s + m - s = m by omega, mixF_cg (fun i hi => by rw [r3 (u + 1 + 1) (by simp; omega)]) (fun i hi => x1 i hi)]; rfl
        · rw [h2 u (by simp; omega), r3 u (by simp; omega), ← hnv]; exact (upd_id rfl).symm)
  · refine x_aload_n C dX9_seal_22 1 rfl rfl ?_
    refine x_getrN C fl_X9_35 (xO.1 109 _ rfl).1 rfl (xO.2.1 109 3 _ rfl) dX9_seal_23 ?_
    refine x_aload_n C dX9_seal_26 2 rfl rfl ?_
    refine x_getrN C fl_X9_208 hu.1 rfl (hu.2.2 2 (by decide)).1 dX9_seal_27 ?_
    refine x_aload_n C dX9_seal_30 2 rfl rfl ?_
    refine x_getiN C fl_X9_138 hu.1 rfl dX9_seal_31 ?_
    refine x_eqi (y := nv) (by rw [r3 u (by simp; omega)]; exact hnv) ?_
    refine x_aload_n C dX9_seal_34 2 rfl rfl ?_
    refine x_getrN C fl_X9_104 hu.1 rfl (hu.2.2 1 (by decide)).1 dX9_seal_35 ?_
    refine x_aload C dX9_seal_38 5 rfl ?_
    refine x_iload C dX9_seal_40 0 rfl ?_
    refine x_callV C (ok_X0_seal xO hsa (u + 1 + 2) 32 nv (hu.2.2 2 (by decide)).2.1 (by decide) (by decide) (by omega) (u + 1 + 1) 32 2 (hu.2.2 1 (by decide)).2.1 (by decide) (by decide) (by omega) (fun j hj => by rw [r3 (u + 1 + 1) (by simp; omega)]; exact hbh j hj) s (s + m) (by rw [r2]; simp [upd]) (by omega) (by omega) (by omega) (fun j j1 j2 => by rw [show j = s + (j - s) by omega, x1 _ (by omega)]; exact hbx _ (by omega))) mv_X0_seal ml_X9_214 (xO.1 132 _ rfl).1 rfl rfl rfl (Nat.le_of_ble_eq_true rfl) (hrm (rm := { frames := 0, cells := 0, slots := 0, locals := 0 }) hZ ⟨Nat.le_of_ble_eq_true rfl, Nat.le_of_ble_eq_true rfl⟩) (hcs hZ ⟨Nat.le_of_ble_eq_true rfl, Nat.le_of_ble_eq_true rfl⟩) dX9_seal_42 (fun v G' hp => ?_)
    obtain ⟨rfl, J2, L1, rfl, q1, q2, q3, q4, q5⟩ := hp
    show hX z 0 0 (T, J2, L1, R, A) [(5, .int (nI s)), (0, .ref (A 109)), (1, .ref (A u)), (2, .ref (A x)), (3, .int (nI m)), (4, .ref (A 105))] 45 []
    refine x_aload_n C dX9_seal_45 2 rfl rfl ?_
    refine x_dup C dX9_seal_46 rfl ?_
    refine x_getiN C fl_X9_138 hu.1 rfl dX9_seal_47 ?_
    refine x_eqi (y := nv) (by rw [q4 u (by simp; omega), r3 u (by simp; omega)]; exact hnv) ?_
    refine x_iconst (v := nI 1) C dX9_seal_50 (by decide +kernel) ?_
    refine x_iadd C dX9_seal_51 ?_
    refine x_putiN C fl_X9_138 hu.1 hu.2.1 rfl dX9_seal_52 (fun I1 eI1 => ?_)
    have fJ : fx [105, 106, 111, 112, 113, 133, 134, 135, 136, 141, 142, u, u + 1 + 1] I I1 := by rw [eI1]; exact ((r3.wk (by simp)).tr q4 (by simp)).up (by simp)
    refine x_aload_n C dX9_seal_55 1 rfl rfl ?_
    refine x_aload_n C dX9_seal_56 2 rfl rfl ?_
    refine x_aload C dX9_seal_57 5 rfl ?_
    refine x_getrN C fl_X9_185 (xO.1 105 _ rfl).1 rfl (xO.2.1 105 0 _ rfl) dX9_seal_59 ?_
    refine x_iload C dX9_seal_62 0 rfl ?_
    refine x_aload C dX9_seal_64 5 rfl ?_
    refine x_getiN C fl_X9_162 (xO.1 105 _ rfl).1 rfl dX9_seal_66 ?_
    refine x_eqi (y := nI (s + m + 16)) (by rw [eI1, va_up_other _ _ (by omega), q3]; simp [upd]) ?_
    refine x_callV C (ok_X9_mixHash xO hsa u (u + 1 + 1) 106 160 s (s + m + 16) (fJ.st (by intro k hk; simp; omega) hst) hu.1 (hu.2.2 1 (by decide)).1 (hu.2.2 1 (by decide)).2.1 (hu.2.2 1 (by decide)).2.2 (by omega) (xO.1 106 _ rfl).1 (by decide) (by omega) (by omega) (by decide)) mv_X9_mixHash ml_X9_158 (xO.1 109 _ rfl).1 rfl rfl rfl (Nat.le_of_ble_eq_true rfl) (hrm (rm := { frames := 0, cells := 0, slots := 0, locals := 0 }) hZ ⟨Nat.le_of_ble_eq_true rfl, Nat.le_of_ble_eq_true rfl⟩) (hcs hZ ⟨Nat.le_of_ble_eq_true rfl, Nat.le_of_ble_eq_true rfl⟩) dX9_seal_69 (fun v G' hp => ?_)
    obtain ⟨rfl, J5, rfl, h1, h2⟩ := hp
    show hX z 0 0 (T, J5, L1, R, A) [(5, .int (nI s)), (0, .ref (A 109)), (1, .ref (A u)), (2, .ref (A x)), (3, .int (nI m)), (4, .ref (A 105))] 72 []
    exact x_vret C E (Nat.le_of_ble_eq_true rfl) (Nat.le_of_ble_eq_true rfl) dX9_seal_72 (by
        have ek := bI_T c19
        subst ek
        have y1 : ∀ j, j < m + 16 → I1 106 (s + j) = slF true (I (u + 1 + 2)) nv 32 (fun j => byt (I (u + 1 + 1) j)) (I x) m j := fun j hj => by
          rw [eI1, va_up_other _ _ (by omega), q1 j (by omega), show s + m - s = m by omega]
          exact encF_cg (fun i _ => by rw [r3 (u + 1 + 2) (by simp; omega)]) (fun i _ => by rw [r3 (u + 1 + 1) (by simp; omega)]) (fun i hi => x1 i hi) j
        refine ⟨rfl, J5, L1, rfl, fun j hj => ?_, fun t ht => ?_, ?_, fun j hj => ?_, ?_, fJ.tr h2 (by simp), q5⟩
        · rw [h2 106 (by simp; omega)]; exact y1 j hj
        · rw [h2 106 (by simp; omega), eI1, va_up_other _ _ (by omega), q2 t ht, r1]; show (if s ≤ t ∧ t < s + (m - 0) then _ else I 106 t) = _; rw [if_neg (by omega)]
        · rw [h2 105 (by simp; omega), eI1, va_up_other _ _ (by omega), q3, r2]; funext j; unfold upd; by_cases hj : j = 1 <;> simp [hj]; rfl
        · rw [h1]; simp only [hj, if_true]; rw [show s + m + 16 - s = m + 16 by omega, mixF_cg (fun i hi => by rw [eI1, va_up_other _ _ (by omega), q4 (u + 1 + 1) (by simp; omega), r3 (u + 1 + 1) (by simp; omega)]) (fun i hi => y1 i hi)]; rfl
        · rw [h2 u (by simp; omega), eI1, va_up_same, q4 u (by simp; omega), r3 u (by simp; omega)]; rfl)

