def mRow (A B : Nat → Int) (i : Nat) (p : Nat → Int) : Nat → Nat → Int
  | 0 => p
  | j + 1 => va_up (mRow A B i p j) (i + j) (mRow A B i p j (i + j) + A i * B j)
def mAll (A B : Nat → Int) : Nat → Nat → Int
  | 0 => fun _ => 0
  | i + 1 => mRow A B i (mAll A B i) 16
def mFo (p : Nat → Int) (k : Nat) : Int := if k < 15 then p k + 38 * p (k + 16) else p k
/-- the product of two numbers, carried twice -/
def mQv (A B r : Nat → Int) (j : Nat) : Int := if j < 16 then mFo (mAll A B 16) j else r j
def mTm (A B r : Nat → Int) : Nat → Int := mCi (mCi (mQv A B r) 16) 16
def mW (A : Nat → Int) : Prop := ∀ i, i < 16 → -1048576 ≤ A i ∧ A i ≤ 1048576
theorem mRow_b {A B : Nat → Int} (hA : mW A) (hB : mW B) {i : Nat} (hi : i < 16) {p : Nat → Int} {c : Int} (h : ∀ k, -c ≤ p k ∧ p k ≤ c) : ∀ j, j ≤ 16 → ∀ k, (k < i + j → -(c + 1099511627776) ≤ mRow A B i p j k ∧ mRow A B i p j k ≤ c + 1099511627776) ∧ (i + j ≤ k → mRow A B i p j k = p k)
  | 0, _, k => ⟨fun _ => by have := h k; simp only [mRow]; omega, fun _ => rfl⟩
  | j + 1, hj, k => by
    have ih := mRow_b hA hB hi h j (by omega)
    simp only [mRow]
    by_cases e : k = i + j
    · subst e
      refine ⟨fun _ => ?_, fun h2 => by omega⟩
      rw [up_eq, (ih (i + j)).2 (Nat.le_refl _)]
      have h1 := h (i + j)
      have h2 := mulB (hA i hi) (hB j (by omega))
      omega
    · rw [up_ne _ _ e]
      exact ⟨fun h2 => (ih k).1 (by omega), fun h2 => (ih k).2 (by omega)⟩
theorem mAll_b {A B : Nat → Int} (hA : mW A) (hB : mW B) : ∀ i : Nat, i ≤ 16 → ∀ k, -(1099511627776 * (i : Int)) ≤ mAll A B i k ∧ mAll A B i k ≤ 1099511627776 * (i : Int)
  | 0, _, k => by simp [mAll]
  | i + 1, hi, k => by
    have ih := mAll_b hA hB i (by omega)
    have r := mRow_b hA hB (show i < 16 by omega) ih 16 (Nat.le_refl _) k
    simp only [mAll]
    by_cases c : k < i + 16
    · have := r.1 c; omega
    · rw [r.2 (by omega)]; have := ih k; omega
theorem mQv_b {A B r : Nat → Int} (hA : mW A) (hB : mW B) : ∀ i, i < 16 → -2 ^ 50 ≤ mQv A B r i ∧ mQv A B r i ≤ 2 ^ 50 := by
  intro i hi
  have h1 := mAll_b hA hB 16 (Nat.le_refl _) i
  have h2 := mAll_b hA hB 16 (Nat.le_refl _) (i + 16)
  unfold mQv mFo
  rw [if_pos hi]
  by_cases c : i < 15
  · rw [if_pos c]; omega
  · rw [if_neg c]; omega
theorem mCi_b {f : Nat → Int} (h : ∀ i, i < 16 → -2 ^ 60 ≤ f i ∧ f i ≤ 2 ^ 60) : ∀ i, i < 16 → -2 ^ 60 ≤ mCi f 16 i ∧ mCi f 16 i ≤ 2 ^ 60 := by
  intro i hi
  have h1 := mOv_b h 16 (Nat.le_refl _)
  have h2 := mG_b f i
  have h3 := mG_b f 0
  unfold mCi; rw [if_pos hi]
  by_cases c : 16 = 16 ∧ i = 0
  · rw [if_pos c]; omega
  · rw [if_neg c]; omega
theorem mQv_e (A B r : Nat → Int) : (fun j => if j < 16 then mQv A B r j else r j) = mQv A B r := by
  funext j; unfold mQv; by_cases c : j < 16
  · rw [if_pos c, if_pos c]
  · rw [if_neg c, if_neg c]
set_option maxHeartbeats 4000000 in
set_option maxRecDepth 100000 in
theorem ok_X11_times {l : Launch} {a0 : Nat} {D : va_G} {sa : Nat → Nat} {T : Nat → Option hKd} {I : Nat → Nat → Int32} {L : Nat → Nat → Int64} {R : Nat → Nat → Option Nat} {A : Nat → Nat} (mO : isM T R A a0) (o a b : Nat) (ho : o < 10) (ha : a < 10) (hb : b < 10) (F : Nat → Nat → Int) (hF : gB L F) (hWA : mW (F a)) (hWB : mW (F b)) : hM l a0 D sa yX11_times cX11_times 6 none { frames := 1, cells := 0, slots := 0, locals := 24 } [.ref (A 63), .int (nI o), .int (nI a), .int (nI b)] (T, I, L, R, A) (fun r G' => r = none ∧ ∃ L', G' = (T, I, L', R, A) ∧ gB L' (va_up F o (mTm (F a) (F b) (F o))) ∧ ∀ q, q ≠ 10 → q ≠ 11 → L' q = L q) := by
  refine hM.of (by decide +kernel) (Nat.le_of_ble_eq_true rfl) ?_
  intro z hl h0 hD hS hN C E
  subst hl; subst h0; subst hD; subst hS
  have C : hC z RX11 cX11_times := C
  have hZ := E.2.2.2.1
  show hX z 0 0 (T, I, L, R, A) [(0, .ref (A 63)), (1, .int (nI o)), (2, .int (nI a)), (3, .int (nI b))] 0 []
  refine x_iconst (v := nI 0) C dX11_times_0 (by decide +kernel) ?_
  refine x_istore (lv' := [(4, .int (nI 0)), (0, .ref (A 63)), (1, .int (nI o)), (2, .int (nI a)), (3, .int (nI b))]) C dX11_times_1 (Nat.lt_of_lt_of_eq (by decide) hN.symm) rfl ?_
  have L3 : ∀ (fuel_ : Nat) (k : Nat) (K0 : Nat → Nat → Int64), 31 - k < fuel_ → (k ≤ 31) → (∀ q, q ≠ 11 → K0 q = L q) → (∀ t, t < k → K0 11 t = lZ 0) → hX z 0 0 (T, I, K0, R, A) [(4, .int (nI k)), (0, .ref (A 63)), (1, .int (nI o)), (2, .int (nI a)), (3, .int (nI b))] 3 [] := by
    intro fuel_
    induction fuel_ with
    | zero => intro k K0 hmz; exact absurd hmz (Nat.not_lt_zero _)
    | succ fuel_ ih3 =>
      intro k K0 hmz hk hK0 hP0
      refine x_iload C dX11_times_3 0 rfl ?_
      refine x_bipush (v := nI 31) C dX11_times_5 (by decide +kernel) ?_
      refine x_icmp_geN (tgt := 24) C (by omega) (by omega) dX11_times_7 (by decide) (fun c7 => ?_) (fun c7 => ?_)
      · refine x_iconst (v := nI 0) C dX11_times_24 (by decide +kernel) ?_
        refine x_istore (lv' := [(4, .int (nI 0)), (0, .ref (A 63)), (1, .int (nI o)), (2, .int (nI a)), (3, .int (nI b))]) C dX11_times_25 (Nat.lt_of_lt_of_eq (by decide) hN.symm) rfl ?_
        have L27 : ∀ (fuel_ : Nat) (i : Nat) (K1 : Nat → Nat → Int64), 16 - i < fuel_ → (i ≤ 16) → (∀ q, q ≠ 11 → K1 q = L q) → (∀ t, t < 31 → K1 11 t = lZ (mAll (F a) (F b) i t)) → hX z 0 0 (T, I, K1, R, A) [(4, .int (nI i)), (0, .ref (A 63)), (1, .int (nI o)), (2, .int (nI a)), (3, .int (nI b))] 27 [] := by
          intro fuel_
          induction fuel_ with
          | zero => intro i K1 hmz; exact absurd hmz (Nat.not_lt_zero _)
          | succ fuel_ ih27 =>
            intro i K1 hmz hi hK1 hP1
            refine x_iload C dX11_times_27 0 rfl ?_
            refine x_bipush (v := nI 16) C dX11_times_29 (by decide +kernel) ?_
            refine x_icmp_geN (tgt := 94) C (by omega) (by omega) dX11_times_31 (by decide) (fun c31 => ?_) (fun c31 => ?_)
            · refine x_iconst (v := nI 0) C dX11_times_94 (by decide +kernel) ?_
              refine x_istore (lv' := [(4, .int (nI 0)), (0, .ref (A 63)), (1, .int (nI o)), (2, .int (nI a)), (3, .int (nI b))]) C dX11_times_95 (Nat.lt_of_lt_of_eq (by decide) hN.symm) rfl ?_
              have L97 : ∀ (fuel_ : Nat) (e : Nat) (K3 : Nat → Nat → Int64), 15 - e < fuel_ → (e ≤ 15) → (∀ q, q ≠ 11 → K3 q = L q) → (∀ t, t < 31 → K3 11 t = lZ (if t < e then (mAll (F a) (F b) 16) t + 38 * (mAll (F a) (F b) 16) (t + 16) else (mAll (F a) (F b) 16) t)) → hX z 0 0 (T, I, K3, R, A) [(4, .int (nI e)), (0, .ref (A 63)), (1, .int (nI o)), (2, .int (nI a)), (3, .int (nI b))] 97 [] := by
                intro fuel_
                induction fuel_ with
                | zero => intro e K3 hmz; exact absurd hmz (Nat.not_lt_zero _)
                | succ fuel_ ih97 =>
                  intro e K3 hmz he hK3 hP3
                  refine x_iload C dX11_times_97 0 rfl ?_
                  refine x_bipush (v := nI 15) C dX11_times_99 (by decide +kernel) ?_
                  refine x_icmp_geN (tgt := 134) C (by omega) (by omega) dX11_times_101 (by decide) (fun c101 => ?_) (fun c101 => ?_)
                  · refine x_iconst (v := nI 0) C dX11_times_134 (by decide +kernel) ?_
                    refine x_istore (lv' := [(4, .int (nI 0)), (0, .ref (A 63)), (1, .int (nI o)), (2, .int (nI a)), (3, .int (nI b))]) C dX11_times_135 (Nat.lt_of_lt_of_eq (by decide) hN.symm) rfl ?_
                    have L137 : ∀ (fuel_ : Nat) (g : Nat) (K4 : Nat → Nat → Int64), 16 - g < fuel_ → (g ≤ 16) → (∀ q, q ≠ 10 → q ≠ 11 → K4 q = L q) → (∀ t, t < 16 → K4 11 t = lZ (mFo (mAll (F a) (F b) 16) t)) → (gB K4 (va_up F o (fun j => if j < g then (mQv (F a) (F b) (F o)) j else F o j))) → hX z 0 0 (T, I, K4, R, A) [(4, .int (nI g)), (0, .ref (A 63)), (1, .int (nI o)), (2, .int (nI a)), (3, .int (nI b))] 137 [] := by
                      intro fuel_
                      induction fuel_ with
                      | zero => intro g K4 hmz; exact absurd hmz (Nat.not_lt_zero _)
                      | succ fuel_ ih137 =>
                        intro g K4 hmz hg hK4 hP4 hG4
                        refine x_iload C dX11_times_137 0 rfl ?_
                        refine x_bipush (v := nI 16) C dX11_times_139 (by decide +kernel) ?_
                        refine x_icmp_geN (tgt := 169) C (by omega) (by omega) dX11_times_141 (by decide) (fun c141 => ?_) (fun c141 => ?_)
                        · rw [show g = 16 by omega] at hG4
                          refine x_aload_n C dX11_times_169 1 rfl rfl ?_
                          refine x_iload_n C dX11_times_170 2 rfl rfl ?_
                          refine x_callV C (ok_X11_carry mO o ho _ hG4 (fun i hi => by rw [up_eq]; have h := mQv_b (r := F o) hWA hWB i hi; rw [show (if i < 16 then (mQv (F a) (F b) (F o)) i else F o i) = (mQv (F a) (F b) (F o)) i from if_pos hi]; omega)) mv_X11_carry ml_X11_290 mO.1 rfl rfl rfl (Nat.le_of_ble_eq_true rfl) (hrm (rm := { frames := 0, cells := 0, slots := 0, locals := 0 }) hZ ⟨Nat.le_of_ble_eq_true rfl, Nat.le_of_ble_eq_true rfl⟩) (hcs hZ ⟨Nat.le_of_ble_eq_true rfl, Nat.le_of_ble_eq_true rfl⟩) dX11_times_171 (fun v G' hp => ?_)
                          obtain ⟨rfl, C1, rfl, hC1, gC1⟩ := hp
                          have hc1 : gB C1 (va_up F o (mCi (mQv (F a) (F b) (F o)) 16)) := hC1.to (by rw [up_eq, up_up, mQv_e])
                          show hX z 0 0 (T, I, C1, R, A) [(4, .int (nI g)), (0, .ref (A 63)), (1, .int (nI o)), (2, .int (nI a)), (3, .int (nI b))] 174 []
                          refine x_aload_n C dX11_times_174 1 rfl rfl ?_
                          refine x_iload_n C dX11_times_175 2 rfl rfl ?_
                          refine x_callV C (ok_X11_carry mO o ho _ hc1 (fun i hi => by rw [up_eq]; exact mCi_b (fun k hk => by have h := mQv_b (r := F o) hWA hWB k hk; omega) i hi)) mv_X11_carry ml_X11_290 mO.1 rfl rfl rfl (Nat.le_of_ble_eq_true rfl) (hrm (rm := { frames := 0, cells := 0, slots := 0, locals := 0 }) hZ ⟨Nat.le_of_ble_eq_true rfl, Nat.le_of_ble_eq_true rfl⟩) (hcs hZ ⟨Nat.le_of_ble_eq_true rfl, Nat.le_of_ble_eq_true rfl⟩) dX11_times_176 (fun v G' hp => ?_)
                          obtain ⟨rfl, C2, rfl, hC2, gC2⟩ := hp
                          show hX z 0 0 (T, I, C2, R, A) [(4, .int (nI g)), (0, .ref (A 63)), (1, .int (nI o)), (2, .int (nI a)), (3, .int (nI b))] 179 []
                          exact x_vret C E (Nat.le_of_ble_eq_true rfl) (Nat.le_of_ble_eq_true rfl) dX11_times_179 (⟨rfl, C2, rfl, hC2.to (by rw [up_eq, up_up]; rfl), fun q h1 h2 => by rw [gC2 q h1, gC1 q h1]; exact hK4 q h1 h2⟩)
                        · refine x_aload_n C dX11_times_144 1 rfl rfl ?_
                          refine x_getrN C fl_X11_109 mO.1 rfl (mO.2.2 10 _ rfl).1 dX11_times_145 ?_
                          refine x_bipush (v := nI 16) C dX11_times_148 (by decide +kernel) ?_
                          refine x_iload_n C dX11_times_150 2 rfl rfl ?_
                          refine x_imulN C dX11_times_151 ?_
                          refine x_iload C dX11_times_152 0 rfl ?_
                          refine x_iaddN C dX11_times_154 ?_
                          refine x_aload_n C dX11_times_155 1 rfl rfl ?_
                          refine x_getrN C fl_X11_113 mO.1 rfl (mO.2.2 11 _ rfl).1 dX11_times_156 ?_
                          refine x_iload C dX11_times_159 0 rfl ?_
                          refine x_laldN C (mO.2.2 11 _ rfl).2.1 (by omega) (by omega) dX11_times_161 ?_
                          refine x_eql (y := lZ ((mQv (F a) (F b) (F o)) g)) (by rw [hP4 g (by omega)]; unfold mQv; rw [if_pos (by omega)]) ?_
                          refine x_lastN C (mO.2.2 10 _ rfl).2.1 (mO.2.2 10 _ rfl).2.2 (by omega) (by omega) dX11_times_162 (fun L1 eL1 => ?_)
                          refine x_iinc (v := nI (g + 1)) (lv' := [(4, .int (nI (g + 1))), (0, .ref (A 63)), (1, .int (nI o)), (2, .int (nI a)), (3, .int (nI b))]) C dX11_times_163 0 rfl (nI_inc 1) (Nat.lt_of_lt_of_eq (by decide) hN.symm) rfl ?_
                          refine x_goto (tgt := 137) C dX11_times_166 (by decide) ?_
                          refine x_sub (lv' := _) [0, 1, 2, 3, 4] rfl ?_
                          exact ih137 (g + 1) L1 (by omega) (by omega) (fun q hq hq2 => by rw [eL1, up_ne _ _ hq]; exact hK4 q hq hq2) (fun t ht => by rw [eL1, up_ne _ _ (by decide)]; exact hP4 t ht) (wr_g (N := (mQv (F a) (F b) (F o))) hG4 (by omega) rfl eL1)
                    refine x_sub (lv' := _) [0, 1, 2, 3, 4] rfl ?_
                    exact L137 _ 0 K3 (Nat.lt_succ_self _) (by omega) (fun q _ h => hK3 q h) (fun t ht => by rw [hP3 t (by omega)]; unfold mFo; by_cases c : t < 15 <;> first | (rw [if_pos c, if_pos (by omega)]; done) | (rw [if_neg c, if_neg (by omega)]; done)) ((show gB K3 F from fun p hp i hi => by rw [hK3 10 (by decide)]; exact hF p hp i hi).to (g_0 F o _))
                  · refine x_aload_n C dX11_times_104 1 rfl rfl ?_
                    refine x_getrN C fl_X11_113 mO.1 rfl (mO.2.2 11 _ rfl).1 dX11_times_105 ?_
                    refine x_iload C dX11_times_108 0 rfl ?_
                    refine x_dup2 C dX11_times_110 rfl rfl ?_
                    refine x_laldN C (mO.2.2 11 _ rfl).2.1 (by omega) (by omega) dX11_times_111 ?_
                    refine x_eql (y := lZ ((mAll (F a) (F b) 16) e)) (by rw [hP3 e (by omega), if_neg (by omega)]) ?_
                    refine x_ldc2 C dX11_times_112 kc_X11_288 ?_
                    refine x_eql (y := lZ 38) (lZ_lit 38) ?_
                    refine x_aload_n C dX11_times_115 1 rfl rfl ?_
                    refine x_getrN C fl_X11_113 mO.1 rfl (mO.2.2 11 _ rfl).1 dX11_times_116 ?_
                    refine x_iload C dX11_times_119 0 rfl ?_
                    refine x_bipush (v := nI 16) C dX11_times_121 (by decide +kernel) ?_
                    refine x_iaddN C dX11_times_123 ?_
                    refine x_laldN C (mO.2.2 11 _ rfl).2.1 (by omega) (by omega) dX11_times_124 ?_
                    refine x_eql (y := lZ ((mAll (F a) (F b) 16) (e + 16))) (by rw [hP3 (e + 16) (by omega), if_neg (by omega)]) ?_
                    refine x_lmulZ C dX11_times_125 ?_
                    refine x_laddZ C dX11_times_126 ?_
                    refine x_lastN C (mO.2.2 11 _ rfl).2.1 (mO.2.2 11 _ rfl).2.2 (by omega) (by omega) dX11_times_127 (fun L2 eL2 => ?_)
                    refine x_iinc (v := nI (e + 1)) (lv' := [(4, .int (nI (e + 1))), (0, .ref (A 63)), (1, .int (nI o)), (2, .int (nI a)), (3, .int (nI b))]) C dX11_times_128 0 rfl (nI_inc 1) (Nat.lt_of_lt_of_eq (by decide) hN.symm) rfl ?_
                    refine x_goto (tgt := 97) C dX11_times_131 (by decide) ?_
                    refine x_sub (lv' := _) [0, 1, 2, 3, 4] rfl ?_
                    exact ih97 (e + 1) L2 (by omega) (by omega) (fun q hq => by rw [eL2, up_ne _ _ hq]; exact hK3 q hq) (fun t ht => by by_cases c : t = e <;> first | (rw [c, eL2, up_Ls, if_pos (by omega)]; done) | (rw [eL2, up_Ln c, hP3 t ht]; by_cases c2 : t < e <;> first | (rw [if_pos c2, if_pos (by omega)]; done) | (rw [if_neg c2, if_neg (by omega)]; done)))
              refine x_sub (lv' := _) [0, 1, 2, 3, 4] rfl ?_
              exact L97 _ 0 K1 (Nat.lt_succ_self _) (by omega) hK1 (fun t ht => by rw [if_neg (by omega)]; have := hP1 t ht; rw [show i = 16 by omega] at this; exact this)
            · refine x_iconst (v := nI 0) C dX11_times_34 (by decide +kernel) ?_
              refine x_istore (lv' := [(5, .int (nI 0)), (4, .int (nI i)), (0, .ref (A 63)), (1, .int (nI o)), (2, .int (nI a)), (3, .int (nI b))]) C dX11_times_35 (Nat.lt_of_lt_of_eq (by decide) hN.symm) rfl ?_
              have L37 : ∀ (fuel_ : Nat) (j : Nat) (K2 : Nat → Nat → Int64), 16 - j < fuel_ → (j ≤ 16) → (∀ q, q ≠ 11 → K2 q = L q) → (∀ t, t < 31 → K2 11 t = lZ (mRow (F a) (F b) i (mAll (F a) (F b) i) j t)) → hX z 0 0 (T, I, K2, R, A) [(5, .int (nI j)), (4, .int (nI i)), (0, .ref (A 63)), (1, .int (nI o)), (2, .int (nI a)), (3, .int (nI b))] 37 [] := by
                intro fuel_
                induction fuel_ with
                | zero => intro j K2 hmz; exact absurd hmz (Nat.not_lt_zero _)
                | succ fuel_ ih37 =>
                  intro j K2 hmz hj hK2 hP2
                  refine x_iload C dX11_times_37 0 rfl ?_
                  refine x_bipush (v := nI 16) C dX11_times_39 (by decide +kernel) ?_
                  refine x_icmp_geN (tgt := 88) C (by omega) (by omega) dX11_times_41 (by decide) (fun c41 => ?_) (fun c41 => ?_)
                  · refine x_iinc (v := nI (i + 1)) (lv' := [(4, .int (nI (i + 1))), (5, .int (nI j)), (0, .ref (A 63)), (1, .int (nI o)), (2, .int (nI a)), (3, .int (nI b))]) C dX11_times_88 1 rfl (nI_inc 1) (Nat.lt_of_lt_of_eq (by decide) hN.symm) rfl ?_
                    refine x_goto (tgt := 27) C dX11_times_91 (by decide) ?_
                    refine x_sub (lv' := _) [0, 2, 3, 4, 5] rfl ?_
                    exact ih27 (i + 1) K2 (by omega) (by omega) hK2 (fun t ht => by have := hP2 t ht; rw [show j = 16 by omega] at this; exact this)
                  · refine x_aload_n C dX11_times_44 2 rfl rfl ?_
                    refine x_getrN C fl_X11_113 mO.1 rfl (mO.2.2 11 _ rfl).1 dX11_times_45 ?_
                    refine x_iload C dX11_times_48 1 rfl ?_
                    refine x_iload C dX11_times_50 0 rfl ?_
                    refine x_iaddN C dX11_times_52 ?_
                    refine x_dup2 C dX11_times_53 rfl rfl ?_
                    refine x_laldN C (mO.2.2 11 _ rfl).2.1 (by omega) (by omega) dX11_times_54 ?_
                    refine x_eql (y := lZ (mRow (F a) (F b) i (mAll (F a) (F b) i) j (i + j))) (hP2 (i + j) (by omega)) ?_
                    refine x_aload_n C dX11_times_55 2 rfl rfl ?_
                    refine x_getrN C fl_X11_109 mO.1 rfl (mO.2.2 10 _ rfl).1 dX11_times_56 ?_
                    refine x_bipush (v := nI 16) C dX11_times_59 (by decide +kernel) ?_
                    refine x_iload_n C dX11_times_61 4 rfl rfl ?_
                    refine x_imulN C dX11_times_62 ?_
                    refine x_iload C dX11_times_63 1 rfl ?_
                    refine x_iaddN C dX11_times_65 ?_
                    refine x_laldN C (mO.2.2 10 _ rfl).2.1 (by omega) (by omega) dX11_times_66 ?_
                    refine x_eql (y := lZ (F a i)) (by rw [hK2 10 (by decide)]; exact hF a ha i (by omega)) ?_
                    refine x_aload_n C dX11_times_67 2 rfl rfl ?_
                    refine x_getrN C fl_X11_109 mO.1 rfl (mO.2.2 10 _ rfl).1 dX11_times_68 ?_
                    refine x_bipush (v := nI 16) C dX11_times_71 (by decide +kernel) ?_
                    refine x_iload_n C dX11_times_73 5 rfl rfl ?_
                    refine x_imulN C dX11_times_74 ?_
                    refine x_iload C dX11_times_75 0 rfl ?_
                    refine x_iaddN C dX11_times_77 ?_
                    refine x_laldN C (mO.2.2 10 _ rfl).2.1 (by omega) (by omega) dX11_times_78 ?_
                    refine x_eql (y := lZ (F b j)) (by rw [hK2 10 (by decide)]; exact hF b hb j (by omega)) ?_
                    refine x_lmulZ C dX11_times_79 ?_
                    refine x_laddZ C dX11_times_80 ?_
                    refine x_lastN C (mO.2.2 11 _ rfl).2.1 (mO.2.2 11 _ rfl).2.2 (by omega) (by omega) dX11_times_81 (fun L3 eL3 => ?_)
                    refine x_iinc (v := nI (j + 1)) (lv' := [(5, .int (nI (j + 1))), (4, .int (nI i)), (0, .ref (A 63)), (1, .int (nI o)), (2, .int (nI a)), (3, .int (nI b))]) C dX11_times_82 0 rfl (nI_inc 1) (Nat.lt_of_lt_of_eq (by decide) hN.symm) rfl ?_
                    refine x_goto (tgt := 37) C dX11_times_85 (by decide) ?_
                    refine x_sub (lv' := _) [0, 1, 2, 3, 4, 5] rfl ?_
                    exact ih37 (j + 1) L3 (by omega) (by omega) (fun q hq => by rw [eL3, up_ne _ _ hq]; exact hK2 q hq) (fun t ht => by rw [eL3, up_eq]; unfold vp_updL; simp only [mRow]; unfold va_up; by_cases c : t = i + j <;> first | (rw [if_pos c, if_pos c]; done) | (rw [if_neg c, if_neg c]; exact hP2 t ht))
              refine x_sub (lv' := _) [0, 1, 2, 3, 4, 5] rfl ?_
              exact L37 _ 0 K1 (Nat.lt_succ_self _) (by omega) hK1 hP1
        refine x_sub (lv' := _) [0, 1, 2, 3, 4] rfl ?_
        exact L27 _ 0 K0 (Nat.lt_succ_self _) (by omega) hK0 (fun t ht => hP0 t (by omega))
      · refine x_aload_n C dX11_times_10 1 rfl rfl ?_
        refine x_getrN C fl_X11_113 mO.1 rfl (mO.2.2 11 _ rfl).1 dX11_times_11 ?_
        refine x_iload C dX11_times_14 0 rfl ?_
        refine x_lconst (v := lZ 0) C dX11_times_16 (by decide +kernel) ?_
        refine x_lastN C (mO.2.2 11 _ rfl).2.1 (mO.2.2 11 _ rfl).2.2 (by omega) (by omega) dX11_times_17 (fun L4 eL4 => ?_)
        refine x_iinc (v := nI (k + 1)) (lv' := [(4, .int (nI (k + 1))), (0, .ref (A 63)), (1, .int (nI o)), (2, .int (nI a)), (3, .int (nI b))]) C dX11_times_18 0 rfl (nI_inc 1) (Nat.lt_of_lt_of_eq (by decide) hN.symm) rfl ?_
        refine x_goto (tgt := 3) C dX11_times_21 (by decide) ?_
        refine x_sub (lv' := _) [0, 1, 2, 3, 4] rfl ?_
        exact ih3 (k + 1) L4 (by omega) (by omega) (fun q hq => by rw [eL4, up_ne _ _ hq]; exact hK0 q hq) (lt_s' (fun t ht => by rw [eL4, up_Ln (by omega)]; exact hP0 t ht) (by rw [eL4, up_Ls]))
  refine x_sub (lv' := _) [0, 1, 2, 3, 4] rfl ?_
  exact L3 _ 0 L (Nat.lt_succ_self _) (by omega) (fun _ _ => rfl) (fun t ht => absurd ht (by omega))

