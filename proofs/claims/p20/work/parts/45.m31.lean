theorem lZ_eq {a b : Int} (h1 : -2 ^ 63 ≤ a ∧ a < 2 ^ 63) (h2 : -2 ^ 63 ≤ b ∧ b < 2 ^ 63) : lZ a = lZ b ↔ a = b := by
  refine ⟨fun h => ?_, fun h => by rw [h]⟩
  have := congrArg Int64.toInt h
  rwa [lZ_toInt h1.1 h1.2, lZ_toInt h2.1 h2.2] at this
theorem cmp_ge {a : Int} (h : -2 ^ 63 ≤ a ∧ a < 2 ^ 63) : 0 ≤ lg_cmp (lZ a) (lZ 0) ↔ 0 ≤ a := by
  have h1 := lZ_lt (a := 0) (b := a) (by omega) (by omega) h.1 h.2
  have h2 := lZ_eq h (b := 0) (by omega)
  unfold lg_cmp
  by_cases c : lZ a > lZ 0
  · rw [if_pos c]; have := h1.mp c; exact ⟨fun _ => by omega, fun _ => by decide +kernel⟩
  · rw [if_neg c]
    by_cases c2 : lZ a = lZ 0
    · rw [if_pos c2]; have := h2.mp c2; exact ⟨fun _ => by omega, fun _ => by decide +kernel⟩
    · rw [if_neg c2]
      have e1 : ¬ 0 < a := fun e => c (h1.mpr e)
      have e2 : ¬ a = 0 := fun e => c2 (h2.mpr e)
      exact ⟨fun e => absurd e (by decide +kernel), fun e => by omega⟩
theorem cmp_0 {a : Int} (h : -2 ^ 63 ≤ a ∧ a < 2 ^ 63) : lg_cmp (lZ a) (lZ 0) = 0 ↔ a = 0 := by
  have h1 := lZ_lt (a := 0) (b := a) (by omega) (by omega) h.1 h.2
  have h2 := lZ_eq h (b := 0) (by omega)
  unfold lg_cmp
  by_cases c : lZ a > lZ 0
  · rw [if_pos c]; have := h1.mp c; exact ⟨fun e => absurd e (by decide +kernel), fun _ => by omega⟩
  · rw [if_neg c]
    by_cases c2 : lZ a = lZ 0
    · rw [if_pos c2]; exact ⟨fun _ => h2.mp c2, fun _ => rfl⟩
    · rw [if_neg c2]; exact ⟨fun e => absurd e (by decide +kernel), fun e => absurd (h2.mpr e) c2⟩
theorem mIn.n {g : Nat → Int} (h : mIn g) : mN g := fun i hi => by
  have := h i hi; by_cases e : i = 0
  · rw [if_pos e, if_pos e]; omega
  · rw [if_neg e, if_neg e]; omega
/-- what the ten numbers are, as they stand -/
def gIv (L : Nat → Nat → Int64) (p i : Nat) : Int := (L 10 (16 * p + i)).toInt
theorem gB_I (L : Nat → Nat → Int64) : gB L (gIv L) := fun o _ i _ => (lZ_self _).symm
def mRn (g : Nat → Int) : Nat → Nat → Int
  | 0 => g
  | n + 1 => mRd (mRn g n)
theorem mRn_in {g : Nat → Int} (h : mIn g) : ∀ n, mIn (mRn g n)
  | 0 => h
  | n + 1 => mRd_in (mRn_in h n)
theorem mSb_b {x : Nat → Int} (h : mIn x) {i : Nat} (hi : i < 16) : -65535 ≤ mSb x i ∧ mSb x i ≤ 65535 := by
  have h1 := h i hi
  have h2 : 0 ≤ pl i ∧ pl i ≤ 65535 := by unfold pl; split <;> (try split) <;> omega
  unfold mSb; omega
theorem mSb_ov {x : Nat → Int} (h : mIn x) : ∀ i, i ≤ 16 → mOv (mSb x) i = 0 ∨ mOv (mSb x) i = -1
  | 0, _ => Or.inl rfl
  | i + 1, hi => by
    have ih := mSb_ov h i (by omega)
    have hb := mSb_b h (show i < 16 by omega)
    simp only [mOv]; omega
theorem two_s (X g : Nat → Int32) (p i : Nat) (x y : Int32) (hx : x = X (p + 2 * i)) (hy : y = X (p + 2 * i + 1)) : upd (upd (fun t => if p ≤ t ∧ t < p + 2 * i then X t else g t) (p + 2 * i) x) (p + 2 * i + 1) y = fun t => if p ≤ t ∧ t < p + 2 * (i + 1) then X t else g t := by
  funext t
  unfold upd
  by_cases c1 : t = p + 2 * i + 1
  · rw [if_pos c1, if_pos (by omega), c1, hy]
  · rw [if_neg c1]
    by_cases c2 : t = p + 2 * i
    · rw [if_pos c2, if_pos (by omega), c2, hx]
    · rw [if_neg c2]
      show (if p ≤ t ∧ t < p + 2 * i then X t else g t) = _
      by_cases c3 : p ≤ t ∧ t < p + 2 * i
      · rw [if_pos c3, if_pos (by omega)]
      · rw [if_neg c3, if_neg (by omega)]
theorem gi_carry {l : Launch} {a0 : Nat} {D : va_G} {sa : Nat → Nat} {T : Nat → Option hKd} {I : Nat → Nat → Int32} {L : Nat → Nat → Int64} {R : Nat → Nat → Option Nat} {A : Nat → Nat} (mO : isM T R A a0) (H : Nat → Nat → Int) (hG : gB L H) (hn : mN (H 8)) : hM l a0 D sa yX11_carry cX11_carry 5 none { frames := 0, cells := 0, slots := 0, locals := 0 } [.ref (A 63), .int (nI 8)] (T, I, L, R, A) (fun r G' => r = none ∧ ∃ L' H', G' = (T, I, L', R, A) ∧ gB L' H' ∧ mIn (H' 8) ∧ mv (H' 8) = mv (H 8)) := by
  refine (ok_X11_carry mO 8 (by decide) H hG (fun i hi => by have := hn.w hi; omega)).imp ?_
  rintro v G' ⟨rfl, L', rfl, h1, _⟩
  exact ⟨rfl, L', _, rfl, h1, by rw [up_eq]; exact mCi_full hn, by rw [up_eq]; exact mv_car _⟩
set_option maxHeartbeats 4000000 in
set_option maxRecDepth 100000 in
theorem ok_X11_packs {l : Launch} {a0 : Nat} {D : va_G} {sa : Nat → Nat} {T : Nat → Option hKd} {I : Nat → Nat → Int32} {L : Nat → Nat → Int64} {R : Nat → Nat → Option Nat} {A : Nat → Nat} (mO : isM T R A a0) (o u nu p : Nat) (ho : o < 10) (F : Nat → Nat → Int) (hF : gB L F) (hNo : mN (F o)) (V : Int) (hV : mv (F o) = V) (hTu : T u = some (.inl (.int, nu))) (hu0 : a0 ≤ A u) (hnu : nu < 2 ^ 20) (hp : p + 32 ≤ nu) : hM l a0 D sa yX11_packs cX11_packs 10 none { frames := 1, cells := 0, slots := 0, locals := 24 } [.ref (A 63), .int (nI o), .ref (A u), .int (nI p)] (T, I, L, R, A) (fun r G' => r = none ∧ ∃ L', G' = (T, va_up I u (fun t => if p ≤ t ∧ t < p + 32 then nI (byN V (t - p)) else I u t), L', R, A)) := by
  refine hM.of (by decide +kernel) (Nat.le_of_ble_eq_true rfl) ?_
  intro z hl h0 hD hS hN C E
  subst hl; subst h0; subst hD; subst hS
  have C : hC z RX11 cX11_packs := C
  have hZ := E.2.2.2.1
  show hX z 0 0 (T, I, L, R, A) [(0, .ref (A 63)), (1, .int (nI o)), (2, .ref (A u)), (3, .int (nI p))] 0 []
  refine x_aload_n C dX11_packs_0 0 rfl rfl ?_
  refine x_bipush (v := nI 8) C dX11_packs_1 (by decide +kernel) ?_
  refine x_iload_n C dX11_packs_3 1 rfl rfl ?_
  refine x_callV C (ok_X11_copies mO 8 o (by decide) ho F hF) mv_X11_copies ml_X11_304 mO.1 rfl rfl rfl (Nat.le_of_ble_eq_true rfl) (hrm (rm := { frames := 0, cells := 0, slots := 0, locals := 0 }) hZ ⟨Nat.le_of_ble_eq_true rfl, Nat.le_of_ble_eq_true rfl⟩) (hcs hZ ⟨Nat.le_of_ble_eq_true rfl, Nat.le_of_ble_eq_true rfl⟩) dX11_packs_4 (fun v G' hp => ?_)
  obtain ⟨rfl, L1, rfl, h1, _⟩ := hp
  have hn1 : mN (va_up F 8 (fun j => if j < 16 then F o j else F 8 j) 8) := fun i hi => by rw [up_eq]; have := hNo i hi; simp only [if_pos hi]; exact this
  show hX z 0 0 (T, I, L1, R, A) [(0, .ref (A 63)), (1, .int (nI o)), (2, .ref (A u)), (3, .int (nI p))] 7 []
  refine x_aload_n C dX11_packs_7 0 rfl rfl ?_
  refine x_bipush (v := nI 8) C dX11_packs_8 (by decide +kernel) ?_
  refine x_callV C (gi_carry mO _ h1 hn1) mv_X11_carry ml_X11_290 mO.1 rfl rfl rfl (Nat.le_of_ble_eq_true rfl) (hrm (rm := { frames := 0, cells := 0, slots := 0, locals := 0 }) hZ ⟨Nat.le_of_ble_eq_true rfl, Nat.le_of_ble_eq_true rfl⟩) (hcs hZ ⟨Nat.le_of_ble_eq_true rfl, Nat.le_of_ble_eq_true rfl⟩) dX11_packs_10 (fun v G' hp => ?_)
  obtain ⟨rfl, L2, H2, rfl, h2, n2, v2⟩ := hp
  show hX z 0 0 (T, I, L2, R, A) [(0, .ref (A 63)), (1, .int (nI o)), (2, .ref (A u)), (3, .int (nI p))] 13 []
  refine x_aload_n C dX11_packs_13 0 rfl rfl ?_
  refine x_bipush (v := nI 8) C dX11_packs_14 (by decide +kernel) ?_
  refine x_callV C (gi_carry mO _ h2 n2.n) mv_X11_carry ml_X11_290 mO.1 rfl rfl rfl (Nat.le_of_ble_eq_true rfl) (hrm (rm := { frames := 0, cells := 0, slots := 0, locals := 0 }) hZ ⟨Nat.le_of_ble_eq_true rfl, Nat.le_of_ble_eq_true rfl⟩) (hcs hZ ⟨Nat.le_of_ble_eq_true rfl, Nat.le_of_ble_eq_true rfl⟩) dX11_packs_16 (fun v G' hp => ?_)
  obtain ⟨rfl, L3, H3, rfl, h3, n3, v3⟩ := hp
  show hX z 0 0 (T, I, L3, R, A) [(0, .ref (A 63)), (1, .int (nI o)), (2, .ref (A u)), (3, .int (nI p))] 19 []
  refine x_aload_n C dX11_packs_19 0 rfl rfl ?_
  refine x_bipush (v := nI 8) C dX11_packs_20 (by decide +kernel) ?_
  refine x_callV C (gi_carry mO _ h3 n3.n) mv_X11_carry ml_X11_290 mO.1 rfl rfl rfl (Nat.le_of_ble_eq_true rfl) (hrm (rm := { frames := 0, cells := 0, slots := 0, locals := 0 }) hZ ⟨Nat.le_of_ble_eq_true rfl, Nat.le_of_ble_eq_true rfl⟩) (hcs hZ ⟨Nat.le_of_ble_eq_true rfl, Nat.le_of_ble_eq_true rfl⟩) dX11_packs_22 (fun v G' hp => ?_)
  obtain ⟨rfl, L4, H4, rfl, h4, n4, v4⟩ := hp
  have hv : mv (H4 8) = V := by rw [v4, v3, v2, up_eq, mv_cg if16]; exact hV
  generalize hg : H4 8 = g at n4 hv
  have hL4 : ∀ t, t < 16 → L4 10 (128 + t) = lZ (g t) := fun t ht => by rw [← hg]; exact h4 8 (by decide) t ht
  show hX z 0 0 (T, I, L4, R, A) [(0, .ref (A 63)), (1, .int (nI o)), (2, .ref (A u)), (3, .int (nI p))] 25 []
  refine x_iconst (v := nI 0) C dX11_packs_25 (by decide +kernel) ?_
  refine x_istore (lv' := [(4, .int (nI 0)), (0, .ref (A 63)), (1, .int (nI o)), (2, .ref (A u)), (3, .int (nI p))]) C dX11_packs_26 (Nat.lt_of_lt_of_eq (by decide) hN.symm) rfl ?_
  have L28 : ∀ (fuel_ : Nat) (w : Nat) (K1 : Nat → Nat → Int64), 2 - w < fuel_ → (w ≤ 2) → (∀ t, t < 16 → K1 10 (128 + t) = lZ (mRn g w t)) → hX z 0 0 (T, I, K1, R, A) [(4, .int (nI w)), (0, .ref (A 63)), (1, .int (nI o)), (2, .ref (A u)), (3, .int (nI p))] 28 [] := by
    intro fuel_
    induction fuel_ with
    | zero => intro w K1 hmz; exact absurd hmz (Nat.not_lt_zero _)
    | succ fuel_ ih28 =>
      intro w K1 hmz hw hA1
      have hin := mRn_in n4 w
      refine x_iload C dX11_packs_28 0 rfl ?_
      refine x_iconst (v := nI 2) C dX11_packs_30 (by decide +kernel) ?_
      refine x_icmp_geN (tgt := 149) C (by omega) (by omega) dX11_packs_31 (by decide) (fun c31 => ?_) (fun c31 => ?_)
      · have hw2 : w = 2 := by omega
        subst hw2
        have hA3 := hA1
        have hV2 : sg mwt (mRn g 2) 16 = V := (mRd2 n4).trans hv
        refine x_iconst (v := nI 0) C dX11_packs_149 (by decide +kernel) ?_
        refine x_istore (lv' := [(4, .int (nI 0)), (0, .ref (A 63)), (1, .int (nI o)), (2, .ref (A u)), (3, .int (nI p))]) C dX11_packs_150 (Nat.lt_of_lt_of_eq (by decide) hN.symm) rfl ?_
        have L152 : ∀ (fuel_ : Nat) (i : Nat) (J : Nat → Nat → Int32), 16 - i < fuel_ → (i ≤ 16) → (J = va_up I u (fun t => if p ≤ t ∧ t < p + 2 * i then nI (byN V (t - p)) else I u t)) → hX z 0 0 (T, J, K1, R, A) [(4, .int (nI i)), (0, .ref (A 63)), (1, .int (nI o)), (2, .ref (A u)), (3, .int (nI p))] 152 [] := by
          intro fuel_
          induction fuel_ with
          | zero => intro i J hmz; exact absurd hmz (Nat.not_lt_zero _)
          | succ fuel_ ih152 =>
            intro i J hmz hi hJ
            refine x_iload C dX11_packs_152 0 rfl ?_
            refine x_bipush (v := nI 16) C dX11_packs_154 (by decide +kernel) ?_
            refine x_icmp_geN (tgt := 218) C (by omega) (by omega) dX11_packs_156 (by decide) (fun c156 => ?_) (fun c156 => ?_)
            · exact x_vret C E (Nat.le_of_ble_eq_true rfl) (Nat.le_of_ble_eq_true rfl) dX11_packs_218 (⟨rfl, _, by rw [hJ, show i = 16 by omega]⟩)
            · refine x_aload_n C dX11_packs_159 3 rfl rfl ?_
              refine x_iload_n C dX11_packs_160 4 rfl rfl ?_
              refine x_iconst (v := nI 2) C dX11_packs_161 (by decide +kernel) ?_
              refine x_iload C dX11_packs_162 0 rfl ?_
              refine x_imulN C dX11_packs_164 ?_
              refine x_iaddN C dX11_packs_165 ?_
              refine x_aload_n C dX11_packs_166 1 rfl rfl ?_
              refine x_getrN C fl_X11_109 mO.1 rfl (mO.2.2 10 _ rfl).1 dX11_packs_167 ?_
              refine x_sipush (v := nI 128) C dX11_packs_170 (by decide +kernel) ?_
              refine x_iload C dX11_packs_173 0 rfl ?_
              refine x_iaddN C dX11_packs_175 ?_
              refine x_laldN C (mO.2.2 10 _ rfl).2.1 (by omega) (by omega) dX11_packs_176 ?_
              refine x_eql (y := lZ (mRn g 2 i)) (hA3 i (by omega)) ?_
              refine x_ldc2 C dX11_packs_177 kc_X11_313 ?_
              refine x_eql (y := lZ 255) (lZ_lit 255) ?_
              refine x_land C dX11_packs_180 ?_
              refine x_eql (y := lZ ((mRn g 2 i % 256).toNat : Int)) ((lZ_and _ (k := 8) (by decide)).trans (by rw [show ((2 : Int) ^ 8) = 256 from rfl, Int.toNat_of_nonneg (by omega)])) ?_
              refine x_l2i C dX11_packs_181 ?_
              refine x_eqi (y := nI (byN V (2 * i))) (by rw [lZ_l2i, (dig_0 hin (by omega)).1, hV2]) ?_
              refine x_iastN C hTu hu0 (by omega) (by omega) dX11_packs_182 (fun I1 eI1 => ?_)
              refine x_aload_n C dX11_packs_183 3 rfl rfl ?_
              refine x_iload_n C dX11_packs_184 4 rfl rfl ?_
              refine x_iconst (v := nI 2) C dX11_packs_185 (by decide +kernel) ?_
              refine x_iload C dX11_packs_186 0 rfl ?_
              refine x_imulN C dX11_packs_188 ?_
              refine x_iaddN C dX11_packs_189 ?_
              refine x_iconst (v := nI 1) C dX11_packs_190 (by decide +kernel) ?_
              refine x_iaddN C dX11_packs_191 ?_
              refine x_aload_n C dX11_packs_192 1 rfl rfl ?_
              refine x_getrN C fl_X11_109 mO.1 rfl (mO.2.2 10 _ rfl).1 dX11_packs_193 ?_
              refine x_sipush (v := nI 128) C dX11_packs_196 (by decide +kernel) ?_
              refine x_iload C dX11_packs_199 0 rfl ?_
              refine x_iaddN C dX11_packs_201 ?_
              refine x_laldN C (mO.2.2 10 _ rfl).2.1 (by omega) (by omega) dX11_packs_202 ?_
              refine x_eql (y := lZ (mRn g 2 i)) (hA3 i (by omega)) ?_
              refine x_bipush (v := nI 8) C dX11_packs_203 (by decide +kernel) ?_
              refine x_lshr C dX11_packs_205 ?_
              refine x_eql (y := lZ (mRn g 2 i / 256)) (by rw [lZ_shr (by have := hin i (by omega); omega) (by have := hin i (by omega); omega) (by decide)]; rfl) ?_
              refine x_ldc2 C dX11_packs_206 kc_X11_313 ?_
              refine x_eql (y := lZ 255) (lZ_lit 255) ?_
              refine x_land C dX11_packs_209 ?_
              refine x_eql (y := lZ ((mRn g 2 i / 256 % 256).toNat : Int)) ((lZ_and _ (k := 8) (by decide)).trans (by rw [show ((2 : Int) ^ 8) = 256 from rfl, Int.toNat_of_nonneg (by omega)])) ?_
              refine x_l2i C dX11_packs_210 ?_
              refine x_eqi (y := nI (byN V (2 * i + 1))) (by rw [lZ_l2i, (dig_0 hin (by omega)).2, hV2]) ?_
              refine x_iastN C hTu hu0 (by omega) (by omega) dX11_packs_211 (fun I2 eI2 => ?_)
              refine x_iinc (v := nI (i + 1)) (lv' := [(4, .int (nI (i + 1))), (0, .ref (A 63)), (1, .int (nI o)), (2, .ref (A u)), (3, .int (nI p))]) C dX11_packs_212 0 rfl (nI_inc 1) (Nat.lt_of_lt_of_eq (by decide) hN.symm) rfl ?_
              refine x_goto (tgt := 152) C dX11_packs_215 (by decide) ?_
              refine x_sub (lv' := _) [0, 1, 2, 3, 4] rfl ?_
              exact ih152 (i + 1) I2 (by omega) (by omega) (by rw [eI2, eI1, up_eq, up_up, hJ, up_eq, up_up]; exact congrArg (va_up I u) (two_s (fun t => nI (byN V (t - p))) (I u) p i _ _ (by rw [show p + 2 * i - p = 2 * i by omega]) (by rw [show p + 2 * i + 1 - p = 2 * i + 1 by omega])))
        refine x_sub (lv' := _) [0, 1, 2, 3, 4] rfl ?_
        exact L152 _ 0 I (Nat.lt_succ_self _) (by omega) (by rw [show (fun t => if p ≤ t ∧ t < p + 2 * 0 then nI (byN V (t - p)) else I u t) = I u from funext fun t => if_neg (by omega), up_self])
      · refine x_lconst (v := lZ 0) C dX11_packs_34 (by decide +kernel) ?_
        refine x_lstore (lv' := [(5, .long (lZ 0)), (4, .int (nI w)), (0, .ref (A 63)), (1, .int (nI o)), (2, .ref (A u)), (3, .int (nI p))]) C dX11_packs_35 (Nat.lt_of_lt_of_eq (by decide) hN.symm) rfl ?_
        refine x_iconst (v := nI 0) C dX11_packs_37 (by decide +kernel) ?_
        refine x_istore (lv' := [(7, .int (nI 0)), (5, .long (lZ 0)), (4, .int (nI w)), (0, .ref (A 63)), (1, .int (nI o)), (2, .ref (A u)), (3, .int (nI p))]) C dX11_packs_38 (Nat.lt_of_lt_of_eq (by decide) hN.symm) rfl ?_
        have L40 : ∀ (fuel_ : Nat) (i : Nat) (bo : Int) (K2 : Nat → Nat → Int64), 16 - i < fuel_ → (i ≤ 16) → (bo = -mOv (mSb (mRn g w)) i) → (∀ t, t < 16 → K2 10 (128 + t) = lZ ((mRn g w) t)) → (∀ t, t < i → K2 10 (144 + t) = lZ (mG (mSb (mRn g w)) t)) → hX z 0 0 (T, I, K2, R, A) [(7, .int (nI i)), (5, .long (lZ bo)), (4, .int (nI w)), (0, .ref (A 63)), (1, .int (nI o)), (2, .ref (A u)), (3, .int (nI p))] 40 [] := by
          intro fuel_
          induction fuel_ with
          | zero => intro i bo K2 hmz; exact absurd hmz (Nat.not_lt_zero _)
          | succ fuel_ ih40 =>
            intro i bo K2 hmz hi hbo hA2 hB2
            have ho1 := mSb_ov hin i (by omega)
            refine x_iload C dX11_packs_40 0 rfl ?_
            refine x_bipush (v := nI 16) C dX11_packs_42 (by decide +kernel) ?_
            refine x_icmp_geN (tgt := 128) C (by omega) (by omega) dX11_packs_44 (by decide) (fun c44 => ?_) (fun c44 => ?_)
            · refine x_lload C dX11_packs_128 1 rfl ?_
              refine x_lconst (v := lZ 0) C dX11_packs_130 (by decide +kernel) ?_
              refine x_lcmp C dX11_packs_131 ?_
              refine x_if_ne (tgt := 143) C dX11_packs_132 (by decide) (fun c132 => ?_) (fun c132 => ?_)
              · have hi16 : i = 16 := by omega
                rw [hi16] at hbo ho1
                have hov : ¬ mOv (mSb (mRn g w)) 16 = 0 := fun e => c132 ((cmp_0 (by omega)).mpr (by omega))
                refine x_iinc (v := nI (w + 1)) (lv' := [(4, .int (nI (w + 1))), (7, .int (nI i)), (5, .long (lZ bo)), (0, .ref (A 63)), (1, .int (nI o)), (2, .ref (A u)), (3, .int (nI p))]) C dX11_packs_143 2 rfl (nI_inc 1) (Nat.lt_of_lt_of_eq (by decide) hN.symm) rfl ?_
                refine x_goto (tgt := 28) C dX11_packs_146 (by decide) ?_
                refine x_sub (lv' := _) [0, 3, 4, 5, 6] rfl ?_
                exact ih28 (w + 1) K2 (by omega) (by omega) (fun t ht => by rw [hA2 t ht]; show _ = lZ (mRd (mRn g w) t); unfold mRd; rw [if_neg hov])
              · have hi16 : i = 16 := by omega
                rw [hi16] at hbo ho1
                have hov : mOv (mSb (mRn g w)) 16 = 0 := by
                  have := (cmp_0 (by omega)).mp c132
                  omega
                refine x_aload_n C dX11_packs_135 3 rfl rfl ?_
                refine x_bipush (v := nI 8) C dX11_packs_136 (by decide +kernel) ?_
                refine x_bipush (v := nI 9) C dX11_packs_138 (by decide +kernel) ?_
                refine x_callV C (ok_X11_copies mO 8 9 (by decide) (by decide) (gIv K2) (gB_I K2)) mv_X11_copies ml_X11_304 mO.1 rfl rfl rfl (Nat.le_of_ble_eq_true rfl) (hrm (rm := { frames := 0, cells := 0, slots := 0, locals := 0 }) hZ ⟨Nat.le_of_ble_eq_true rfl, Nat.le_of_ble_eq_true rfl⟩) (hcs hZ ⟨Nat.le_of_ble_eq_true rfl, Nat.le_of_ble_eq_true rfl⟩) dX11_packs_140 (fun v G' hp => ?_)
                obtain ⟨rfl, K3, rfl, h5, _⟩ := hp
                have hA5 : ∀ t, t < 16 → K3 10 (128 + t) = lZ (mRn g (w + 1) t) := fun t ht => by
                  have e := h5 8 (by decide) t ht
                  rw [up_eq] at e
                  simp only [if_pos ht] at e
                  rw [show 128 + t = 16 * 8 + t from rfl, e, show gIv K2 9 t = (K2 10 (144 + t)).toInt from rfl, lZ_self, hB2 t (by omega)]
                  show _ = lZ (mRd (mRn g w) t)
                  unfold mRd; rw [if_pos hov]
                show hX z 0 0 (T, I, K3, R, A) [(7, .int (nI i)), (5, .long (lZ bo)), (4, .int (nI w)), (0, .ref (A 63)), (1, .int (nI o)), (2, .ref (A u)), (3, .int (nI p))] 143 []
                refine x_iinc (v := nI (w + 1)) (lv' := [(4, .int (nI (w + 1))), (7, .int (nI i)), (5, .long (lZ bo)), (0, .ref (A 63)), (1, .int (nI o)), (2, .ref (A u)), (3, .int (nI p))]) C dX11_packs_143 2 rfl (nI_inc 1) (Nat.lt_of_lt_of_eq (by decide) hN.symm) rfl ?_
                refine x_goto (tgt := 28) C dX11_packs_146 (by decide) ?_
                refine x_sub (lv' := _) [0, 3, 4, 5, 6] rfl ?_
                exact ih28 (w + 1) K3 (by omega) (by omega) hA5
            · refine x_aload_n C dX11_packs_47 3 rfl rfl ?_
              refine x_getrN C fl_X11_109 mO.1 rfl (mO.2.2 10 _ rfl).1 dX11_packs_48 ?_
              refine x_sipush (v := nI 128) C dX11_packs_51 (by decide +kernel) ?_
              refine x_iload C dX11_packs_54 0 rfl ?_
              refine x_iaddN C dX11_packs_56 ?_
              refine x_laldN C (mO.2.2 10 _ rfl).2.1 (by omega) (by omega) dX11_packs_57 ?_
              refine x_eql (y := lZ ((mRn g w) i)) (hA2 i (by omega)) ?_
              refine x_iload C dX11_packs_58 0 rfl ?_
              refine x_if_neN (tgt := 69) C (by omega) dX11_packs_60 (by decide) (fun c60 => ?_) (fun c60 => ?_)
              · refine x_iload C dX11_packs_69 0 rfl ?_
                refine x_bipush (v := nI 15) C dX11_packs_71 (by decide +kernel) ?_
                refine x_icmp_neN (tgt := 82) C (by omega) (by omega) dX11_packs_73 (by decide) (fun c73 => ?_) (fun c73 => ?_)
                · have hb16 := mSb_b hin (show i < 16 by omega)
                  have hpl : pl i = 65535 := by unfold pl; rw [if_neg (by omega), if_neg (by omega)]
                  have hv8 : (mRn g w) i - 65535 - bo = mSb (mRn g w) i + mOv (mSb (mRn g w)) i := by
                    have e : mSb (mRn g w) i = (mRn g w) i - pl i := rfl
                    rw [hpl] at e; omega
                  refine x_ldc2 C dX11_packs_82 kc_X11_311 ?_
                  refine x_eql (y := lZ 65535) (lZ_lit 65535) ?_
                  refine x_lsubZ C dX11_packs_85 ?_
                  refine x_lload C dX11_packs_86 1 rfl ?_
                  refine x_lsubZ C dX11_packs_88 ?_
                  refine x_eql (y := lZ (mSb (mRn g w) i + mOv (mSb (mRn g w)) i)) (by rw [hv8]) ?_
                  refine x_lstore (lv' := [(8, .long (lZ (mSb (mRn g w) i + mOv (mSb (mRn g w)) i))), (7, .int (nI i)), (5, .long (lZ bo)), (4, .int (nI w)), (0, .ref (A 63)), (1, .int (nI o)), (2, .ref (A u)), (3, .int (nI p))]) C dX11_packs_89 (Nat.lt_of_lt_of_eq (by decide) hN.symm) rfl ?_
                  refine x_lload C dX11_packs_91 0 rfl ?_
                  refine x_lconst (v := lZ 0) C dX11_packs_93 (by decide +kernel) ?_
                  refine x_lcmp C dX11_packs_94 ?_
                  refine x_if_ge (tgt := 102) C dX11_packs_95 (by decide) (fun c95 => ?_) (fun c95 => ?_)
                  · have hs : 0 ≤ mSb (mRn g w) i + mOv (mSb (mRn g w)) i := (cmp_ge (by omega)).mp c95
                    have hsv : mG (mSb (mRn g w)) i = (mSb (mRn g w) i + mOv (mSb (mRn g w)) i) % 65536 := rfl
                    refine x_lconst (v := lZ 0) C dX11_packs_102 (by decide +kernel) ?_
                    refine x_lstore (lv' := [(5, .long (lZ 0)), (8, .long (lZ (mSb (mRn g w) i + mOv (mSb (mRn g w)) i))), (7, .int (nI i)), (4, .int (nI w)), (0, .ref (A 63)), (1, .int (nI o)), (2, .ref (A u)), (3, .int (nI p))]) C dX11_packs_103 (Nat.lt_of_lt_of_eq (by decide) hN.symm) rfl ?_
                    refine x_aload_n C dX11_packs_105 4 rfl rfl ?_
                    refine x_getrN C fl_X11_109 mO.1 rfl (mO.2.2 10 _ rfl).1 dX11_packs_106 ?_
                    refine x_sipush (v := nI 144) C dX11_packs_109 (by decide +kernel) ?_
                    refine x_iload C dX11_packs_112 2 rfl ?_
                    refine x_iaddN C dX11_packs_114 ?_
                    refine x_lload C dX11_packs_115 1 rfl ?_
                    refine x_ldc2 C dX11_packs_117 kc_X11_311 ?_
                    refine x_eql (y := lZ 65535) (lZ_lit 65535) ?_
                    refine x_land C dX11_packs_120 ?_
                    refine x_eql (y := lZ ((mSb (mRn g w) i + mOv (mSb (mRn g w)) i) % 65536)) (lZ_and _ (k := 16) (by decide)) ?_
                    refine x_lastN C (mO.2.2 10 _ rfl).2.1 (mO.2.2 10 _ rfl).2.2 (by omega) (by omega) dX11_packs_121 (fun L3 eL3 => ?_)
                    refine x_iinc (v := nI (i + 1)) (lv' := [(7, .int (nI (i + 1))), (5, .long (lZ 0)), (8, .long (lZ (mSb (mRn g w) i + mOv (mSb (mRn g w)) i))), (4, .int (nI w)), (0, .ref (A 63)), (1, .int (nI o)), (2, .ref (A u)), (3, .int (nI p))]) C dX11_packs_122 2 rfl (nI_inc 1) (Nat.lt_of_lt_of_eq (by decide) hN.symm) rfl ?_
                    refine x_goto (tgt := 40) C dX11_packs_125 (by decide) ?_
                    refine x_sub (lv' := _) [0, 1, 3, 4, 5, 6, 7] rfl ?_
                    exact ih40 (i + 1) 0 L3 (by omega) (by omega) (by simp only [mOv]; omega) (fun t ht => by rw [eL3, up_Ln (by omega)]; exact hA2 t ht) (lt_s' (fun t ht => by rw [eL3, up_Ln (by omega)]; exact hB2 t ht) (by rw [eL3, up_Ls]; exact hsv.symm ▸ rfl))
                  · have hs : ¬ 0 ≤ mSb (mRn g w) i + mOv (mSb (mRn g w)) i := fun e => c95 ((cmp_ge (by omega)).mpr e)
                    have hsv : mG (mSb (mRn g w)) i = (mSb (mRn g w) i + mOv (mSb (mRn g w)) i) % 65536 := rfl
                    refine x_lconst (v := lZ 1) C dX11_packs_98 (by decide +kernel) ?_
                    refine x_goto (tgt := 103) C dX11_packs_99 (by decide) ?_
                    refine x_lstore (lv' := [(5, .long (lZ 1)), (8, .long (lZ (mSb (mRn g w) i + mOv (mSb (mRn g w)) i))), (7, .int (nI i)), (4, .int (nI w)), (0, .ref (A 63)), (1, .int (nI o)), (2, .ref (A u)), (3, .int (nI p))]) C dX11_packs_103 (Nat.lt_of_lt_of_eq (by decide) hN.symm) rfl ?_
                    refine x_aload_n C dX11_packs_105 4 rfl rfl ?_
                    refine x_getrN C fl_X11_109 mO.1 rfl (mO.2.2 10 _ rfl).1 dX11_packs_106 ?_
                    refine x_sipush (v := nI 144) C dX11_packs_109 (by decide +kernel) ?_
                    refine x_iload C dX11_packs_112 2 rfl ?_
                    refine x_iaddN C dX11_packs_114 ?_
                    refine x_lload C dX11_packs_115 1 rfl ?_
                    refine x_ldc2 C dX11_packs_117 kc_X11_311 ?_
                    refine x_eql (y := lZ 65535) (lZ_lit 65535) ?_
                    refine x_land C dX11_packs_120 ?_
                    refine x_eql (y := lZ ((mSb (mRn g w) i + mOv (mSb (mRn g w)) i) % 65536)) (lZ_and _ (k := 16) (by decide)) ?_
                    refine x_lastN C (mO.2.2 10 _ rfl).2.1 (mO.2.2 10 _ rfl).2.2 (by omega) (by omega) dX11_packs_121 (fun L4 eL4 => ?_)
                    refine x_iinc (v := nI (i + 1)) (lv' := [(7, .int (nI (i + 1))), (5, .long (lZ 1)), (8, .long (lZ (mSb (mRn g w) i + mOv (mSb (mRn g w)) i))), (4, .int (nI w)), (0, .ref (A 63)), (1, .int (nI o)), (2, .ref (A u)), (3, .int (nI p))]) C dX11_packs_122 2 rfl (nI_inc 1) (Nat.lt_of_lt_of_eq (by decide) hN.symm) rfl ?_
                    refine x_goto (tgt := 40) C dX11_packs_125 (by decide) ?_
                    refine x_sub (lv' := _) [0, 1, 3, 4, 5, 6, 7] rfl ?_
                    exact ih40 (i + 1) 1 L4 (by omega) (by omega) (by simp only [mOv]; omega) (fun t ht => by rw [eL4, up_Ln (by omega)]; exact hA2 t ht) (lt_s' (fun t ht => by rw [eL4, up_Ln (by omega)]; exact hB2 t ht) (by rw [eL4, up_Ls]; exact hsv.symm ▸ rfl))
                · have hb16 := mSb_b hin (show i < 16 by omega)
                  have hpl : pl i = 32767 := by unfold pl; rw [if_neg (by omega), if_pos (by omega)]
                  have hv8 : (mRn g w) i - 32767 - bo = mSb (mRn g w) i + mOv (mSb (mRn g w)) i := by
                    have e : mSb (mRn g w) i = (mRn g w) i - pl i := rfl
                    rw [hpl] at e; omega
                  refine x_ldc2 C dX11_packs_76 kc_X11_309 ?_
                  refine x_eql (y := lZ 32767) (lZ_lit 32767) ?_
                  refine x_goto (tgt := 85) C dX11_packs_79 (by decide) ?_
                  refine x_lsubZ C dX11_packs_85 ?_
                  refine x_lload C dX11_packs_86 1 rfl ?_
                  refine x_lsubZ C dX11_packs_88 ?_
                  refine x_eql (y := lZ (mSb (mRn g w) i + mOv (mSb (mRn g w)) i)) (by rw [hv8]) ?_
                  refine x_lstore (lv' := [(8, .long (lZ (mSb (mRn g w) i + mOv (mSb (mRn g w)) i))), (7, .int (nI i)), (5, .long (lZ bo)), (4, .int (nI w)), (0, .ref (A 63)), (1, .int (nI o)), (2, .ref (A u)), (3, .int (nI p))]) C dX11_packs_89 (Nat.lt_of_lt_of_eq (by decide) hN.symm) rfl ?_
                  refine x_lload C dX11_packs_91 0 rfl ?_
                  refine x_lconst (v := lZ 0) C dX11_packs_93 (by decide +kernel) ?_
                  refine x_lcmp C dX11_packs_94 ?_
                  refine x_if_ge (tgt := 102) C dX11_packs_95 (by decide) (fun c95 => ?_) (fun c95 => ?_)
                  · have hs : 0 ≤ mSb (mRn g w) i + mOv (mSb (mRn g w)) i := (cmp_ge (by omega)).mp c95
                    have hsv : mG (mSb (mRn g w)) i = (mSb (mRn g w) i + mOv (mSb (mRn g w)) i) % 65536 := rfl
                    refine x_lconst (v := lZ 0) C dX11_packs_102 (by decide +kernel) ?_
                    refine x_lstore (lv' := [(5, .long (lZ 0)), (8, .long (lZ (mSb (mRn g w) i + mOv (mSb (mRn g w)) i))), (7, .int (nI i)), (4, .int (nI w)), (0, .ref (A 63)), (1, .int (nI o)), (2, .ref (A u)), (3, .int (nI p))]) C dX11_packs_103 (Nat.lt_of_lt_of_eq (by decide) hN.symm) rfl ?_
                    refine x_aload_n C dX11_packs_105 4 rfl rfl ?_
                    refine x_getrN C fl_X11_109 mO.1 rfl (mO.2.2 10 _ rfl).1 dX11_packs_106 ?_
                    refine x_sipush (v := nI 144) C dX11_packs_109 (by decide +kernel) ?_
                    refine x_iload C dX11_packs_112 2 rfl ?_
                    refine x_iaddN C dX11_packs_114 ?_
                    refine x_lload C dX11_packs_115 1 rfl ?_
                    refine x_ldc2 C dX11_packs_117 kc_X11_311 ?_
                    refine x_eql (y := lZ 65535) (lZ_lit 65535) ?_
                    refine x_land C dX11_packs_120 ?_
                    refine x_eql (y := lZ ((mSb (mRn g w) i + mOv (mSb (mRn g w)) i) % 65536)) (lZ_and _ (k := 16) (by decide)) ?_
                    refine x_lastN C (mO.2.2 10 _ rfl).2.1 (mO.2.2 10 _ rfl).2.2 (by omega) (by omega) dX11_packs_121 (fun L5 eL5 => ?_)
                    refine x_iinc (v := nI (i + 1)) (lv' := [(7, .int (nI (i + 1))), (5, .long (lZ 0)), (8, .long (lZ (mSb (mRn g w) i + mOv (mSb (mRn g w)) i))), (4, .int (nI w)), (0, .ref (A 63)), (1, .int (nI o)), (2, .ref (A u)), (3, .int (nI p))]) C dX11_packs_122 2 rfl (nI_inc 1) (Nat.lt_of_lt_of_eq (by decide) hN.symm) rfl ?_
                    refine x_goto (tgt := 40) C dX11_packs_125 (by decide) ?_
                    refine x_sub (lv' := _) [0, 1, 3, 4, 5, 6, 7] rfl ?_
                    exact ih40 (i + 1) 0 L5 (by omega) (by omega) (by simp only [mOv]; omega) (fun t ht => by rw [eL5, up_Ln (by omega)]; exact hA2 t ht) (lt_s' (fun t ht => by rw [eL5, up_Ln (by omega)]; exact hB2 t ht) (by rw [eL5, up_Ls]; exact hsv.symm ▸ rfl))
                  · have hs : ¬ 0 ≤ mSb (mRn g w) i + mOv (mSb (mRn g w)) i := fun e => c95 ((cmp_ge (by omega)).mpr e)
                    have hsv : mG (mSb (mRn g w)) i = (mSb (mRn g w) i + mOv (mSb (mRn g w)) i) % 65536 := rfl
                    refine x_lconst (v := lZ 1) C dX11_packs_98 (by decide +kernel) ?_
                    refine x_goto (tgt := 103) C dX11_packs_99 (by decide) ?_
                    refine x_lstore (lv' := [(5, .long (lZ 1)), (8, .long (lZ (mSb (mRn g w) i + mOv (mSb (mRn g w)) i))), (7, .int (nI i)), (4, .int (nI w)), (0, .ref (A 63)), (1, .int (nI o)), (2, .ref (A u)), (3, .int (nI p))]) C dX11_packs_103 (Nat.lt_of_lt_of_eq (by decide) hN.symm) rfl ?_
                    refine x_aload_n C dX11_packs_105 4 rfl rfl ?_
                    refine x_getrN C fl_X11_109 mO.1 rfl (mO.2.2 10 _ rfl).1 dX11_packs_106 ?_
                    refine x_sipush (v := nI 144) C dX11_packs_109 (by decide +kernel) ?_
                    refine x_iload C dX11_packs_112 2 rfl ?_
                    refine x_iaddN C dX11_packs_114 ?_
                    refine x_lload C dX11_packs_115 1 rfl ?_
                    refine x_ldc2 C dX11_packs_117 kc_X11_311 ?_
                    refine x_eql (y := lZ 65535) (lZ_lit 65535) ?_
                    refine x_land C dX11_packs_120 ?_
                    refine x_eql (y := lZ ((mSb (mRn g w) i + mOv (mSb (mRn g w)) i) % 65536)) (lZ_and _ (k := 16) (by decide)) ?_
                    refine x_lastN C (mO.2.2 10 _ rfl).2.1 (mO.2.2 10 _ rfl).2.2 (by omega) (by omega) dX11_packs_121 (fun L6 eL6 => ?_)
                    refine x_iinc (v := nI (i + 1)) (lv' := [(7, .int (nI (i + 1))), (5, .long (lZ 1)), (8, .long (lZ (mSb (mRn g w) i + mOv (mSb (mRn g w)) i))), (4, .int (nI w)), (0, .ref (A 63)), (1, .int (nI o)), (2, .ref (A u)), (3, .int (nI p))]) C dX11_packs_122 2 rfl (nI_inc 1) (Nat.lt_of_lt_of_eq (by decide) hN.symm) rfl ?_
                    refine x_goto (tgt := 40) C dX11_packs_125 (by decide) ?_
                    refine x_sub (lv' := _) [0, 1, 3, 4, 5, 6, 7] rfl ?_
                    exact ih40 (i + 1) 1 L6 (by omega) (by omega) (by simp only [mOv]; omega) (fun t ht => by rw [eL6, up_Ln (by omega)]; exact hA2 t ht) (lt_s' (fun t ht => by rw [eL6, up_Ln (by omega)]; exact hB2 t ht) (by rw [eL6, up_Ls]; exact hsv.symm ▸ rfl))
              · have hb16 := mSb_b hin (show i < 16 by omega)
                have hpl : pl i = 65517 := by unfold pl; rw [if_pos (by omega)]
                have hv8 : (mRn g w) i - 65517 - bo = mSb (mRn g w) i + mOv (mSb (mRn g w)) i := by
                  have e : mSb (mRn g w) i = (mRn g w) i - pl i := rfl
                  rw [hpl] at e; omega
                refine x_ldc2 C dX11_packs_63 kc_X11_307 ?_
                refine x_eql (y := lZ 65517) (lZ_lit 65517) ?_
                refine x_goto (tgt := 85) C dX11_packs_66 (by decide) ?_
                refine x_lsubZ C dX11_packs_85 ?_
                refine x_lload C dX11_packs_86 1 rfl ?_
                refine x_lsubZ C dX11_packs_88 ?_
                refine x_eql (y := lZ (mSb (mRn g w) i + mOv (mSb (mRn g w)) i)) (by rw [hv8]) ?_
                refine x_lstore (lv' := [(8, .long (lZ (mSb (mRn g w) i + mOv (mSb (mRn g w)) i))), (7, .int (nI i)), (5, .long (lZ bo)), (4, .int (nI w)), (0, .ref (A 63)), (1, .int (nI o)), (2, .ref (A u)), (3, .int (nI p))]) C dX11_packs_89 (Nat.lt_of_lt_of_eq (by decide) hN.symm) rfl ?_
                refine x_lload C dX11_packs_91 0 rfl ?_
                refine x_lconst (v := lZ 0) C dX11_packs_93 (by decide +kernel) ?_
                refine x_lcmp C dX11_packs_94 ?_
                refine x_if_ge (tgt := 102) C dX11_packs_95 (by decide) (fun c95 => ?_) (fun c95 => ?_)
                · have hs : 0 ≤ mSb (mRn g w) i + mOv (mSb (mRn g w)) i := (cmp_ge (by omega)).mp c95
                  have hsv : mG (mSb (mRn g w)) i = (mSb (mRn g w) i + mOv (mSb (mRn g w)) i) % 65536 := rfl
                  refine x_lconst (v := lZ 0) C dX11_packs_102 (by decide +kernel) ?_
                  refine x_lstore (lv' := [(5, .long (lZ 0)), (8, .long (lZ (mSb (mRn g w) i + mOv (mSb (mRn g w)) i))), (7, .int (nI i)), (4, .int (nI w)), (0, .ref (A 63)), (1, .int (nI o)), (2, .ref (A u)), (3, .int (nI p))]) C dX11_packs_103 (Nat.lt_of_lt_of_eq (by decide) hN.symm) rfl ?_
                  refine x_aload_n C dX11_packs_105 4 rfl rfl ?_
                  refine x_getrN C fl_X11_109 mO.1 rfl (mO.2.2 10 _ rfl).1 dX11_packs_106 ?_
                  refine x_sipush (v := nI 144) C dX11_packs_109 (by decide +kernel) ?_
                  refine x_iload C dX11_packs_112 2 rfl ?_
                  refine x_iaddN C dX11_packs_114 ?_
                  refine x_lload C dX11_packs_115 1 rfl ?_
                  refine x_ldc2 C dX11_packs_117 kc_X11_311 ?_
                  refine x_eql (y := lZ 65535) (lZ_lit 65535) ?_
                  refine x_land C dX11_packs_120 ?_
                  refine x_eql (y := lZ ((mSb (mRn g w) i + mOv (mSb (mRn g w)) i) % 65536)) (lZ_and _ (k := 16) (by decide)) ?_
                  refine x_lastN C (mO.2.2 10 _ rfl).2.1 (mO.2.2 10 _ rfl).2.2 (by omega) (by omega) dX11_packs_121 (fun L7 eL7 => ?_)
                  refine x_iinc (v := nI (i + 1)) (lv' := [(7, .int (nI (i + 1))), (5, .long (lZ 0)), (8, .long (lZ (mSb (mRn g w) i + mOv (mSb (mRn g w)) i))), (4, .int (nI w)), (0, .ref (A 63)), (1, .int (nI o)), (2, .ref (A u)), (3, .int (nI p))]) C dX11_packs_122 2 rfl (nI_inc 1) (Nat.lt_of_lt_of_eq (by decide) hN.symm) rfl ?_
                  refine x_goto (tgt := 40) C dX11_packs_125 (by decide) ?_
                  refine x_sub (lv' := _) [0, 1, 3, 4, 5, 6, 7] rfl ?_
                  exact ih40 (i + 1) 0 L7 (by omega) (by omega) (by simp only [mOv]; omega) (fun t ht => by rw [eL7, up_Ln (by omega)]; exact hA2 t ht) (lt_s' (fun t ht => by rw [eL7, up_Ln (by omega)]; exact hB2 t ht) (by rw [eL7, up_Ls]; exact hsv.symm ▸ rfl))
                · have hs : ¬ 0 ≤ mSb (mRn g w) i + mOv (mSb (mRn g w)) i := fun e => c95 ((cmp_ge (by omega)).mpr e)
                  have hsv : mG (mSb (mRn g w)) i = (mSb (mRn g w) i + mOv (mSb (mRn g w)) i) % 65536 := rfl
                  refine x_lconst (v := lZ 1) C dX11_packs_98 (by decide +kernel) ?_
                  refine x_goto (tgt := 103) C dX11_packs_99 (by decide) ?_
                  refine x_lstore (lv' := [(5, .long (lZ 1)), (8, .long (lZ (mSb (mRn g w) i + mOv (mSb (mRn g w)) i))), (7, .int (nI i)), (4, .int (nI w)), (0, .ref (A 63)), (1, .int (nI o)), (2, .ref (A u)), (3, .int (nI p))]) C dX11_packs_103 (Nat.lt_of_lt_of_eq (by decide) hN.symm) rfl ?_
                  refine x_aload_n C dX11_packs_105 4 rfl rfl ?_
                  refine x_getrN C fl_X11_109 mO.1 rfl (mO.2.2 10 _ rfl).1 dX11_packs_106 ?_
                  refine x_sipush (v := nI 144) C dX11_packs_109 (by decide +kernel) ?_
                  refine x_iload C dX11_packs_112 2 rfl ?_
                  refine x_iaddN C dX11_packs_114 ?_
                  refine x_lload C dX11_packs_115 1 rfl ?_
                  refine x_ldc2 C dX11_packs_117 kc_X11_311 ?_
                  refine x_eql (y := lZ 65535) (lZ_lit 65535) ?_
                  refine x_land C dX11_packs_120 ?_
                  refine x_eql (y := lZ ((mSb (mRn g w) i + mOv (mSb (mRn g w)) i) % 65536)) (lZ_and _ (k := 16) (by decide)) ?_
                  refine x_lastN C (mO.2.2 10 _ rfl).2.1 (mO.2.2 10 _ rfl).2.2 (by omega) (by omega) dX11_packs_121 (fun L8 eL8 => ?_)
                  refine x_iinc (v := nI (i + 1)) (lv' := [(7, .int (nI (i + 1))), (5, .long (lZ 1)), (8, .long (lZ (mSb (mRn g w) i + mOv (mSb (mRn g w)) i))), (4, .int (nI w)), (0, .ref (A 63)), (1, .int (nI o)), (2, .ref (A u)), (3, .int (nI p))]) C dX11_packs_122 2 rfl (nI_inc 1) (Nat.lt_of_lt_of_eq (by decide) hN.symm) rfl ?_
                  refine x_goto (tgt := 40) C dX11_packs_125 (by decide) ?_
                  refine x_sub (lv' := _) [0, 1, 3, 4, 5, 6, 7] rfl ?_
                  exact ih40 (i + 1) 1 L8 (by omega) (by omega) (by simp only [mOv]; omega) (fun t ht => by rw [eL8, up_Ln (by omega)]; exact hA2 t ht) (lt_s' (fun t ht => by rw [eL8, up_Ln (by omega)]; exact hB2 t ht) (by rw [eL8, up_Ls]; exact hsv.symm ▸ rfl))
        refine x_sub (lv' := _) [0, 1, 2, 3, 4, 5, 6] rfl ?_
        exact L40 _ 0 0 K1 (Nat.lt_succ_self _) (by omega) rfl hA1 (fun t ht => absurd ht (by omega))
  refine x_sub (lv' := _) [0, 1, 2, 3, 4] rfl ?_
  exact L28 _ 0 L4 (Nat.lt_succ_self _) (by omega) hL4

