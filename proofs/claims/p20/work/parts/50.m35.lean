theorem tQ_b {s : Nat → Int} (h : tB s) : ∀ i, i ≤ 5 → 0 ≤ tQ s i ∧ tQ s i ≤ 5
  | 0, _ => by simp [tQ]
  | i + 1, hi => by have := tQ_b h i (by omega); have := h i (by omega); simp only [tQ]; omega
theorem tO2_b {s : Nat → Int} (h : tB s) : ∀ i, i ≤ 5 → 0 ≤ tO2 s i ∧ tO2 s i ≤ 25
  | 0, _ => by have := tQ_b h 5 (Nat.le_refl _); simp only [tO2]; omega
  | i + 1, hi => by have := tO2_b h i (by omega); have := h i (by omega); simp only [tO2]; omega
theorem tE_i (s : Nat → Int) (i : Nat) : (s i + tO2 s i) % 67108864 = (tE s i : Int) := by unfold tE; omega
theorem tP_mod (f : Nat → Int) : ∀ l k, ∃ r, tP f (l + k) = tP f l + r * 2 ^ (26 * l)
  | l, 0 => ⟨0, by simp⟩
  | l, k + 1 => by
    obtain ⟨r, hr⟩ := tP_mod f l k
    refine ⟨r + tE f (l + k) * 2 ^ (26 * (l + k) - 26 * l), ?_⟩
    show tP f (l + k) + tE f (l + k) * 2 ^ (26 * (l + k)) = _
    rw [hr, Nat.add_mul, Nat.mul_assoc, ← Nat.pow_add, Nat.sub_add_cancel (by omega), Nat.add_assoc]
def tgB (s : Nat → Int) (i : Nat) : Nat := tP s 5 / 2 ^ (8 * i) % 256
theorem tgB_lt (s : Nat → Int) (i : Nat) : tgB s i < 256 := Nat.mod_lt _ (by decide)
theorem tP_at (f : Nat → Int) {l i : Nat} (hl : l ≤ 5) (h : 8 * i + 8 ≤ 26 * l ∨ l = 5) : tP f l / 2 ^ (8 * i) % 256 = tgB f i := by
  unfold tgB
  rcases h with h | h
  · obtain ⟨r, hr⟩ := tP_mod f l (5 - l)
    rw [show l + (5 - l) = 5 by omega] at hr
    rw [hr, show 26 * l = 8 * i + (8 + (26 * l - (8 * i + 8))) by omega, Nat.pow_add, Nat.mul_comm (2 ^ (8 * i)), ← Nat.mul_assoc, Nat.add_mul_div_right _ _ (Nat.two_pow_pos _), Nat.pow_add, Nat.mul_comm (2 ^ 8), ← Nat.mul_assoc, show (2 : Nat) ^ 8 = 256 from rfl, Nat.add_mul_mod_self_right]
  · rw [h]
theorem tP_add (f : Nat → Int) {l i : Nat} (h : 8 * i ≤ 26 * l) : tP f (l + 1) / 2 ^ (8 * i) = tP f l / 2 ^ (8 * i) + tE f l * 2 ^ (26 * l - 8 * i) := by
  simp only [tP]
  rw [show tE f l * 2 ^ (26 * l) = tE f l * 2 ^ (26 * l - 8 * i) * 2 ^ (8 * i) by rw [Nat.mul_assoc, ← Nat.pow_add, Nat.sub_add_cancel h], Nat.add_mul_div_right _ _ (Nat.two_pow_pos _)]
theorem tP_hl (f : Nat → Int) {l i : Nat} (h : 8 * i ≤ 26 * l) : tP f l / 2 ^ (8 * i) < 2 ^ (26 * l - 8 * i) := by
  rw [Nat.div_lt_iff_lt_mul (Nat.two_pow_pos _), ← Nat.pow_add, Nat.sub_add_cancel h]
  exact (tP_s f l).2
theorem x_inc26 {a b : Nat} : nI a - nI b + 26 = nI (a + 26) - nI b := by
  rw [show (26 : Int32) = nI 26 by decide +kernel, x_inc]
theorem tg_end {s : Nat → Int} {v : Int} {lb : Nat → Nat} (hb : tB s) (hv : sg twt s 5 % Q5 = v) {j : Nat} (hj : j < 16) : cyB 0 (fun t => tgB s t + lb t) j = tgV v lb j := by
  rw [← hv, ← tP_v hb]; exact tgV_c hj
theorem fill_cg {α : Type} {I : Nat → Nat → α} {u n : Nat} {f g : Nat → α} (h : ∀ t, t < n → f t = g t) : va_up I u (fun t => if t < n then f t else I u t) = va_up I u (fun t => if t < n then g t else I u t) := by
  congr 1; funext t; by_cases e : t < n
  · rw [if_pos e, if_pos e, h t e]
  · rw [if_neg e, if_neg e]
set_option maxHeartbeats 4000000 in
set_option maxRecDepth 100000 in
theorem ok_X8_finish {l : Launch} {a0 : Nat} {D : va_G} {sa : Nat → Nat} {T : Nat → Option hKd} {I : Nat → Nat → Int32} {L : Nat → Nat → Int64} {R : Nat → Nat → Option Nat} {A : Nat → Nat} (xO : isX T R A a0) (hsa : ∀ k, k < 5 → sa k = A (90 + k)) (u nu : Nat) (r v : Int) (lb : Nat → Nat) (hTu : T u = some (.inl (.int, nu))) (hu0 : a0 ≤ A u) (hnu : nu < 2 ^ 31) (hnu2 : 16 ≤ nu) (hu : u ≠ 142) (hg : tgS L r v) (hlb : ∀ j, j < 16 → I 142 j = nI (lb j) ∧ lb j < 256) : hM l a0 D sa yX8_finish cX8_finish 12 none { frames := 0, cells := 0, slots := 0, locals := 0 } [.ref (A 137), .ref (A u)] (T, I, L, R, A) (fun r G' => r = none ∧ G' = (T, va_up I u (fun t => if t < 16 then nI (tgV v lb t) else I u t), L, R, A)) := by
  refine hM.of (by decide +kernel) (Nat.le_of_ble_eq_true rfl) ?_
  intro z hl h0 hD hS hN C E
  subst hl; subst h0; subst hD; subst hS
  have C : hC z RX8 cX8_finish := C
  have hZ := E.2.2.2.1
  show hX z 0 0 (T, I, L, R, A) [(0, .ref (A 137)), (1, .ref (A u))] 0 []
  obtain ⟨_, s, hs, bs, vs⟩ := hg
  refine x_ldc2 C dX8_finish_0 kc_X8_39 ?_
  refine x_eql (y := lZ 5) (lZ_lit 5) ?_
  refine x_lstore_n (lv' := [(2, .long (lZ 5)), (0, .ref (A 137)), (1, .ref (A u))]) C dX8_finish_3 rfl (Nat.lt_of_lt_of_eq (by decide) hN.symm) rfl ?_
  refine x_iconst (v := nI 0) C dX8_finish_4 (by decide +kernel) ?_
  refine x_istore (lv' := [(4, .int (nI 0)), (2, .long (lZ 5)), (0, .ref (A 137)), (1, .ref (A u))]) C dX8_finish_5 (Nat.lt_of_lt_of_eq (by decide) hN.symm) rfl ?_
  have L7 : ∀ (fuel_ : Nat) (i0 : Nat) (ov : Int), 5 - i0 < fuel_ → (i0 ≤ 5) → (ov = tQ s i0) → hX z 0 0 (T, I, L, R, A) [(4, .int (nI i0)), (2, .long (lZ ov)), (0, .ref (A 137)), (1, .ref (A u))] 7 [] := by
    intro fuel_
    induction fuel_ with
    | zero => intro i0 ov hmz; exact absurd hmz (Nat.not_lt_zero _)
    | succ fuel_ ih7 =>
      intro i0 ov hmz hi0 hov
      have hq := tQ_b bs i0 hi0
      refine x_iload C dX8_finish_7 0 rfl ?_
      refine x_iconst (v := nI 5) C dX8_finish_9 (by decide +kernel) ?_
      refine x_icmp_geN (tgt := 32) C (by omega) (by omega) dX8_finish_10 (by decide) (fun c10 => ?_) (fun c10 => ?_)
      · refine x_lload_n C dX8_finish_32 1 rfl rfl ?_
        refine x_ldc2 C dX8_finish_33 kc_X8_39 ?_
        refine x_eql (y := lZ 5) (lZ_lit 5) ?_
        refine x_lmulZ C dX8_finish_36 ?_
        refine x_lstore_n (lv' := [(2, .long (lZ (ov * 5))), (4, .int (nI i0)), (0, .ref (A 137)), (1, .ref (A u))]) C dX8_finish_37 rfl (Nat.lt_of_lt_of_eq (by decide) hN.symm) rfl ?_
        refine x_lconst (v := lZ 0) C dX8_finish_38 (by decide +kernel) ?_
        refine x_lstore (lv' := [(4, .long (lZ 0)), (2, .long (lZ (ov * 5))), (0, .ref (A 137)), (1, .ref (A u))]) C dX8_finish_39 (Nat.lt_of_lt_of_eq (by decide) hN.symm) rfl ?_
        refine x_iconst (v := nI 0) C dX8_finish_41 (by decide +kernel) ?_
        refine x_istore (lv' := [(6, .int (nI 0)), (4, .long (lZ 0)), (2, .long (lZ (ov * 5))), (0, .ref (A 137)), (1, .ref (A u))]) C dX8_finish_42 (Nat.lt_of_lt_of_eq (by decide) hN.symm) rfl ?_
        refine x_iconst (v := nI 0) C dX8_finish_44 (by decide +kernel) ?_
        refine x_istore (lv' := [(7, .int (nI 0)), (6, .int (nI 0)), (4, .long (lZ 0)), (2, .long (lZ (ov * 5))), (0, .ref (A 137)), (1, .ref (A u))]) C dX8_finish_45 (Nat.lt_of_lt_of_eq (by decide) hN.symm) rfl ?_
        refine x_iconst (v := nI 0) C dX8_finish_47 (by decide +kernel) ?_
        refine x_istore (lv' := [(8, .int (nI 0)), (7, .int (nI 0)), (6, .int (nI 0)), (4, .long (lZ 0)), (2, .long (lZ (ov * 5))), (0, .ref (A 137)), (1, .ref (A u))]) C dX8_finish_48 (Nat.lt_of_lt_of_eq (by decide) hN.symm) rfl ?_
        refine x_iconst (v := nI 0) C dX8_finish_50 (by decide +kernel) ?_
        refine x_istore (lv' := [(9, .int (nI 0)), (8, .int (nI 0)), (7, .int (nI 0)), (6, .int (nI 0)), (4, .long (lZ 0)), (2, .long (lZ (ov * 5))), (0, .ref (A 137)), (1, .ref (A u))]) C dX8_finish_51 (Nat.lt_of_lt_of_eq (by decide) hN.symm) rfl ?_
        have L53 : ∀ (fuel_ : Nat) (i : Nat) (l : Nat) (x : Int32) (hd : Int) (o2 : Int) (cy : Nat) (J : Nat → Nat → Int32), 16 - i < fuel_ → (i ≤ 16) → (l ≤ 5) → (o2 = tO2 s l) → (hd = ((tP s l / 2 ^ (8 * i) : Nat) : Int)) → (x = nI (26 * l) - nI (8 * i)) → (i < 16 → 8 * i ≤ 26 * l) → (26 * l ≤ 8 * i + 33) → (cy = cyN 0 (fun t => tgB s t + lb t) i) → (J = va_up I u (fun t => if t < i then nI (cyB 0 (fun t => tgB s t + lb t) t) else I u t)) → hX z 0 0 (T, J, L, R, A) [(9, .int (nI i)), (8, .int (nI cy)), (7, .int (nI l)), (6, .int x), (4, .long (lZ hd)), (2, .long (lZ o2)), (0, .ref (A 137)), (1, .ref (A u))] 53 [] := by
          intro fuel_
          induction fuel_ with
          | zero => intro i l x hd o2 cy J hmz; exact absurd hmz (Nat.not_lt_zero _)
          | succ fuel_ ih53 =>
            intro i l x hd o2 cy J hmz hi hl ho2 hhd hx hle hbd hcy hJ
            have hcb : cy ≤ 512 := by rw [hcy]; exact cyN_b (by omega) i (fun k hk => by have h1 := tgB_lt s k; have h2 := (hlb k (by omega)).2; omega)
            have htb := tgB_lt s i
            refine x_iload C dX8_finish_53 0 rfl ?_
            refine x_bipush (v := nI 16) C dX8_finish_55 (by decide +kernel) ?_
            refine x_icmp_geN (tgt := 163) C (by omega) (by omega) dX8_finish_57 (by decide) (fun c57 => ?_) (fun c57 => ?_)
            · exact x_vret C E (Nat.le_of_ble_eq_true rfl) (Nat.le_of_ble_eq_true rfl) dX8_finish_163 (⟨rfl, by rw [hJ, show i = 16 by omega, fill_cg (fun t ht => congrArg nI (tg_end bs vs ht))]⟩)
            · have hxn : x = nI (26 * l - 8 * i) := by rw [hx, pk_sub (hle c57)]
              have hlt := (hlb i (by omega)).2
              refine x_iload C dX8_finish_60 3 rfl ?_
              refine x_eqi (y := nI (26 * l - 8 * i)) hxn ?_
              refine x_bipush (v := nI 8) C dX8_finish_62 (by decide +kernel) ?_
              refine x_icmp_geN (tgt := 110) C (by omega) (by omega) dX8_finish_64 (by decide) (fun c64 => ?_) (fun c64 => ?_)
              · have bdA : tP s l / 2 ^ (8 * i) < 2 ^ 40 := Nat.lt_of_lt_of_le (tP_hl _ (hle c57)) (Nat.pow_le_pow_right (by decide) (by omega))
                have hfA : 8 * i + 8 ≤ 26 * l ∨ l = 5 := Or.inl (by have := hle c57; omega)
                refine x_iload C dX8_finish_110 1 rfl ?_
                refine x_lload C dX8_finish_112 4 rfl ?_
                refine x_l2i C dX8_finish_114 ?_
                refine x_sipush (v := nI 255) C dX8_finish_115 (by decide +kernel) ?_
                refine x_iand C dX8_finish_118 ?_
                refine x_eqi (y := nI (tgB s i)) (by rw [hhd, lZ_l2i, nI_255, tP_at _ (by omega) hfA]) ?_
                refine x_aload_n C dX8_finish_119 6 rfl rfl ?_
                refine x_getrN C fl_X8_25 (xO.1 137 _ rfl).1 rfl (xO.2.1 137 4 _ rfl) dX8_finish_120 ?_
                refine x_iload C dX8_finish_123 0 rfl ?_
                refine x_ialdN C (xO.1 142 _ rfl).1 (by omega) (by omega) dX8_finish_125 ?_
                refine x_eqi (y := nI (lb i)) (by rw [hJ, up_ne _ _ (Ne.symm hu)]; exact (hlb i (by omega)).1) ?_
                refine x_iaddN C dX8_finish_126 ?_
                refine x_iaddN C dX8_finish_127 ?_
                refine x_istore (lv' := [(8, .int (nI (cy + (tgB s i + (lb i))))), (9, .int (nI i)), (7, .int (nI l)), (6, .int x), (4, .long (lZ hd)), (2, .long (lZ o2)), (0, .ref (A 137)), (1, .ref (A u))]) C dX8_finish_128 (Nat.lt_of_lt_of_eq (by decide) hN.symm) rfl ?_
                refine x_aload_n C dX8_finish_130 7 rfl rfl ?_
                refine x_iload C dX8_finish_131 1 rfl ?_
                refine x_iload C dX8_finish_133 0 rfl ?_
                refine x_sipush (v := nI 255) C dX8_finish_135 (by decide +kernel) ?_
                refine x_iandN (q := 8) C (by omega) (by omega) rfl dX8_finish_138 ?_
                refine x_iastN C hTu hu0 (by omega) (by omega) dX8_finish_139 (fun I1 eI1 => ?_)
                refine x_iload C dX8_finish_140 0 rfl ?_
                refine x_bipush (v := nI 8) C dX8_finish_142 (by decide +kernel) ?_
                refine x_ishrN C (by omega) (by omega) dX8_finish_144 ?_
                refine x_istore (lv' := [(8, .int (nI ((cy + (tgB s i + (lb i))) / 2 ^ 8))), (9, .int (nI i)), (7, .int (nI l)), (6, .int x), (4, .long (lZ hd)), (2, .long (lZ o2)), (0, .ref (A 137)), (1, .ref (A u))]) C dX8_finish_145 (Nat.lt_of_lt_of_eq (by decide) hN.symm) rfl ?_
                refine x_lload C dX8_finish_147 4 rfl ?_
                refine x_bipush (v := nI 8) C dX8_finish_149 (by decide +kernel) ?_
                refine x_lshr C dX8_finish_151 ?_
                refine x_eql (y := lZ ((tP s l / 2 ^ (8 * (i + 1)) : Nat) : Int)) (by rw [hhd, lZ_shrN bdA (by decide), show 8 * (i + 1) = 8 * i + 8 by omega, Nat.pow_add, ← Nat.div_div_eq_div_mul]) ?_
                refine x_lstore (lv' := [(4, .long (lZ ((tP s l / 2 ^ (8 * (i + 1)) : Nat) : Int))), (8, .int (nI ((cy + (tgB s i + (lb i))) / 2 ^ 8))), (9, .int (nI i)), (7, .int (nI l)), (6, .int x), (2, .long (lZ o2)), (0, .ref (A 137)), (1, .ref (A u))]) C dX8_finish_152 (Nat.lt_of_lt_of_eq (by decide) hN.symm) rfl ?_
                refine x_iinc (v := x + (-8)) (lv' := [(6, .int (x + (-8))), (4, .long (lZ ((tP s l / 2 ^ (8 * (i + 1)) : Nat) : Int))), (8, .int (nI ((cy + (tgB s i + (lb i))) / 2 ^ 8))), (9, .int (nI i)), (7, .int (nI l)), (2, .long (lZ o2)), (0, .ref (A 137)), (1, .ref (A u))]) C dX8_finish_154 4 rfl (by rfl) (Nat.lt_of_lt_of_eq (by decide) hN.symm) rfl ?_
                refine x_iinc (v := nI (i + 1)) (lv' := [(9, .int (nI (i + 1))), (6, .int (x + (-8))), (4, .long (lZ ((tP s l / 2 ^ (8 * (i + 1)) : Nat) : Int))), (8, .int (nI ((cy + (tgB s i + (lb i))) / 2 ^ 8))), (7, .int (nI l)), (2, .long (lZ o2)), (0, .ref (A 137)), (1, .ref (A u))]) C dX8_finish_157 3 rfl (nI_inc 1) (Nat.lt_of_lt_of_eq (by decide) hN.symm) rfl ?_
                refine x_goto (tgt := 53) C dX8_finish_160 (by decide) ?_
                refine x_sub (lv' := _) [0, 3, 4, 1, 2, 5, 6, 7] rfl ?_
                exact ih53 (i + 1) l (x + (-8)) ((tP s l / 2 ^ (8 * (i + 1)) : Nat) : Int) o2 ((cy + (tgB s i + (lb i))) / 2 ^ 8) I1 (by omega) (by omega) (by omega) ho2 rfl (by rw [hx, x_dec8, show 8 * (i + 1) = 8 * i + 8 by omega]) (fun _ => by omega) (by omega) (by rw [hcy]; rfl) (by rw [eI1, hJ]; simp only [up_eq, up_up]; exact congrArg (va_up I u) (by rw [upd_up]; exact fill_s (fun t => nI (cyB 0 (fun t => tgB s t + lb t) t)) _ (by rw [hcy]; rfl)))
              · refine x_iload C dX8_finish_67 2 rfl ?_
                refine x_iconst (v := nI 5) C dX8_finish_69 (by decide +kernel) ?_
                refine x_icmp_geN (tgt := 110) C (by omega) (by omega) dX8_finish_70 (by decide) (fun c70 => ?_) (fun c70 => ?_)
                · have bdA : tP s l / 2 ^ (8 * i) < 2 ^ 40 := Nat.lt_of_lt_of_le (tP_hl _ (hle c57)) (Nat.pow_le_pow_right (by decide) (by omega))
                  have hfA : 8 * i + 8 ≤ 26 * l ∨ l = 5 := Or.inr (by omega)
                  refine x_iload C dX8_finish_110 1 rfl ?_
                  refine x_lload C dX8_finish_112 4 rfl ?_
                  refine x_l2i C dX8_finish_114 ?_
                  refine x_sipush (v := nI 255) C dX8_finish_115 (by decide +kernel) ?_
                  refine x_iand C dX8_finish_118 ?_
                  refine x_eqi (y := nI (tgB s i)) (by rw [hhd, lZ_l2i, nI_255, tP_at _ (by omega) hfA]) ?_
                  refine x_aload_n C dX8_finish_119 6 rfl rfl ?_
                  refine x_getrN C fl_X8_25 (xO.1 137 _ rfl).1 rfl (xO.2.1 137 4 _ rfl) dX8_finish_120 ?_
                  refine x_iload C dX8_finish_123 0 rfl ?_
                  refine x_ialdN C (xO.1 142 _ rfl).1 (by omega) (by omega) dX8_finish_125 ?_
                  refine x_eqi (y := nI (lb i)) (by rw [hJ, up_ne _ _ (Ne.symm hu)]; exact (hlb i (by omega)).1) ?_
                  refine x_iaddN C dX8_finish_126 ?_
                  refine x_iaddN C dX8_finish_127 ?_
                  refine x_istore (lv' := [(8, .int (nI (cy + (tgB s i + (lb i))))), (9, .int (nI i)), (7, .int (nI l)), (6, .int x), (4, .long (lZ hd)), (2, .long (lZ o2)), (0, .ref (A 137)), (1, .ref (A u))]) C dX8_finish_128 (Nat.lt_of_lt_of_eq (by decide) hN.symm) rfl ?_
                  refine x_aload_n C dX8_finish_130 7 rfl rfl ?_
                  refine x_iload C dX8_finish_131 1 rfl ?_
                  refine x_iload C dX8_finish_133 0 rfl ?_
                  refine x_sipush (v := nI 255) C dX8_finish_135 (by decide +kernel) ?_
                  refine x_iandN (q := 8) C (by omega) (by omega) rfl dX8_finish_138 ?_
                  refine x_iastN C hTu hu0 (by omega) (by omega) dX8_finish_139 (fun I2 eI2 => ?_)
                  refine x_iload C dX8_finish_140 0 rfl ?_
                  refine x_bipush (v := nI 8) C dX8_finish_142 (by decide +kernel) ?_
                  refine x_ishrN C (by omega) (by omega) dX8_finish_144 ?_
                  refine x_istore (lv' := [(8, .int (nI ((cy + (tgB s i + (lb i))) / 2 ^ 8))), (9, .int (nI i)), (7, .int (nI l)), (6, .int x), (4, .long (lZ hd)), (2, .long (lZ o2)), (0, .ref (A 137)), (1, .ref (A u))]) C dX8_finish_145 (Nat.lt_of_lt_of_eq (by decide) hN.symm) rfl ?_
                  refine x_lload C dX8_finish_147 4 rfl ?_
                  refine x_bipush (v := nI 8) C dX8_finish_149 (by decide +kernel) ?_
                  refine x_lshr C dX8_finish_151 ?_
                  refine x_eql (y := lZ ((tP s l / 2 ^ (8 * (i + 1)) : Nat) : Int)) (by rw [hhd, lZ_shrN bdA (by decide), show 8 * (i + 1) = 8 * i + 8 by omega, Nat.pow_add, ← Nat.div_div_eq_div_mul]) ?_
                  refine x_lstore (lv' := [(4, .long (lZ ((tP s l / 2 ^ (8 * (i + 1)) : Nat) : Int))), (8, .int (nI ((cy + (tgB s i + (lb i))) / 2 ^ 8))), (9, .int (nI i)), (7, .int (nI l)), (6, .int x), (2, .long (lZ o2)), (0, .ref (A 137)), (1, .ref (A u))]) C dX8_finish_152 (Nat.lt_of_lt_of_eq (by decide) hN.symm) rfl ?_
                  refine x_iinc (v := x + (-8)) (lv' := [(6, .int (x + (-8))), (4, .long (lZ ((tP s l / 2 ^ (8 * (i + 1)) : Nat) : Int))), (8, .int (nI ((cy + (tgB s i + (lb i))) / 2 ^ 8))), (9, .int (nI i)), (7, .int (nI l)), (2, .long (lZ o2)), (0, .ref (A 137)), (1, .ref (A u))]) C dX8_finish_154 4 rfl (by rfl) (Nat.lt_of_lt_of_eq (by decide) hN.symm) rfl ?_
                  refine x_iinc (v := nI (i + 1)) (lv' := [(9, .int (nI (i + 1))), (6, .int (x + (-8))), (4, .long (lZ ((tP s l / 2 ^ (8 * (i + 1)) : Nat) : Int))), (8, .int (nI ((cy + (tgB s i + (lb i))) / 2 ^ 8))), (7, .int (nI l)), (2, .long (lZ o2)), (0, .ref (A 137)), (1, .ref (A u))]) C dX8_finish_157 3 rfl (nI_inc 1) (Nat.lt_of_lt_of_eq (by decide) hN.symm) rfl ?_
                  refine x_goto (tgt := 53) C dX8_finish_160 (by decide) ?_
                  refine x_sub (lv' := _) [0, 3, 4, 1, 2, 5, 6, 7] rfl ?_
                  exact ih53 (i + 1) l (x + (-8)) ((tP s l / 2 ^ (8 * (i + 1)) : Nat) : Int) o2 ((cy + (tgB s i + (lb i))) / 2 ^ 8) I2 (by omega) (by omega) (by omega) ho2 rfl (by rw [hx, x_dec8, show 8 * (i + 1) = 8 * i + 8 by omega]) (fun _ => by omega) (by omega) (by rw [hcy]; rfl) (by rw [eI2, hJ]; simp only [up_eq, up_up]; exact congrArg (va_up I u) (by rw [upd_up]; exact fill_s (fun t => nI (cyB 0 (fun t => tgB s t + lb t) t)) _ (by rw [hcy]; rfl)))
                · have hob := tO2_b bs l hl
                  have hgb := bs l (by omega)
                  have hfC : 8 * i + 8 ≤ 26 * (l + 1) ∨ l + 1 = 5 := Or.inl (by have := hle c57; omega)
                  have bdC : tP s (l + 1) / 2 ^ (8 * i) < 2 ^ 40 := Nat.lt_of_lt_of_le (tP_hl _ (by have := hle c57; omega)) (Nat.pow_le_pow_right (by decide) (by omega))
                  refine x_aload_n C dX8_finish_73 6 rfl rfl ?_
                  refine x_getrN C fl_X8_15 (xO.1 137 _ rfl).1 rfl (xO.2.1 137 1 _ rfl) dX8_finish_74 ?_
                  refine x_iload C dX8_finish_77 2 rfl ?_
                  refine x_laldN C (xO.1 139 _ rfl).1 (by omega) (by omega) dX8_finish_79 ?_
                  refine x_eql (y := lZ (s l)) (hs l (by omega)) ?_
                  refine x_lload_n C dX8_finish_80 5 rfl rfl ?_
                  refine x_laddZ C dX8_finish_81 ?_
                  refine x_lstore (lv' := [(10, .long (lZ ((s l) + o2))), (9, .int (nI i)), (8, .int (nI cy)), (7, .int (nI l)), (6, .int x), (4, .long (lZ hd)), (2, .long (lZ o2)), (0, .ref (A 137)), (1, .ref (A u))]) C dX8_finish_82 (Nat.lt_of_lt_of_eq (by decide) hN.symm) rfl ?_
                  refine x_lload C dX8_finish_84 0 rfl ?_
                  refine x_bipush (v := nI 26) C dX8_finish_86 (by decide +kernel) ?_
                  refine x_lshr C dX8_finish_88 ?_
                  refine x_eql (y := lZ ((s l + o2) / 67108864)) (lZ_shr26 (by omega) (by omega)) ?_
                  refine x_lstore_n (lv' := [(2, .long (lZ ((s l + o2) / 67108864))), (10, .long (lZ ((s l) + o2))), (9, .int (nI i)), (8, .int (nI cy)), (7, .int (nI l)), (6, .int x), (4, .long (lZ hd)), (0, .ref (A 137)), (1, .ref (A u))]) C dX8_finish_89 rfl (Nat.lt_of_lt_of_eq (by decide) hN.symm) rfl ?_
                  refine x_lload C dX8_finish_90 6 rfl ?_
                  refine x_lload C dX8_finish_92 1 rfl ?_
                  refine x_ldc2 C dX8_finish_94 kc_X8_41 ?_
                  refine x_eql (y := lZ 67108863) (lZ_lit 67108863) ?_
                  refine x_land C dX8_finish_97 ?_
                  refine x_eql (y := lZ (tE s l : Int)) (by rw [lZ_and26, ho2, tE_i]) ?_
                  refine x_iload C dX8_finish_98 5 rfl ?_
                  refine x_eqi (y := nI (26 * l - 8 * i)) hxn ?_
                  refine x_lshl C dX8_finish_100 ?_
                  refine x_eql (y := lZ ((tE s l : Int) * 2 ^ (26 * l - 8 * i))) (lZ_shl _ (by omega)) ?_
                  refine x_lor C dX8_finish_101 ?_
                  refine x_eql (y := lZ ((tP s (l + 1) / 2 ^ (8 * i) : Nat) : Int)) (by rw [hhd, lZ_or (tP_hl _ (hle c57)), tP_add _ (hle c57)]) ?_
                  refine x_lstore (lv' := [(4, .long (lZ ((tP s (l + 1) / 2 ^ (8 * i) : Nat) : Int))), (2, .long (lZ ((s l + o2) / 67108864))), (10, .long (lZ ((s l) + o2))), (9, .int (nI i)), (8, .int (nI cy)), (7, .int (nI l)), (6, .int x), (0, .ref (A 137)), (1, .ref (A u))]) C dX8_finish_102 (Nat.lt_of_lt_of_eq (by decide) hN.symm) rfl ?_
                  refine x_iinc (v := x + 26) (lv' := [(6, .int (x + 26)), (4, .long (lZ ((tP s (l + 1) / 2 ^ (8 * i) : Nat) : Int))), (2, .long (lZ ((s l + o2) / 67108864))), (10, .long (lZ ((s l) + o2))), (9, .int (nI i)), (8, .int (nI cy)), (7, .int (nI l)), (0, .ref (A 137)), (1, .ref (A u))]) C dX8_finish_104 6 rfl (by rfl) (Nat.lt_of_lt_of_eq (by decide) hN.symm) rfl ?_
                  refine x_iinc (v := nI (l + 1)) (lv' := [(7, .int (nI (l + 1))), (6, .int (x + 26)), (4, .long (lZ ((tP s (l + 1) / 2 ^ (8 * i) : Nat) : Int))), (2, .long (lZ ((s l + o2) / 67108864))), (10, .long (lZ ((s l) + o2))), (9, .int (nI i)), (8, .int (nI cy)), (0, .ref (A 137)), (1, .ref (A u))]) C dX8_finish_107 6 rfl (nI_inc 1) (Nat.lt_of_lt_of_eq (by decide) hN.symm) rfl ?_
                  refine x_iload C dX8_finish_110 6 rfl ?_
                  refine x_lload C dX8_finish_112 2 rfl ?_
                  refine x_l2i C dX8_finish_114 ?_
                  refine x_sipush (v := nI 255) C dX8_finish_115 (by decide +kernel) ?_
                  refine x_iand C dX8_finish_118 ?_
                  refine x_eqi (y := nI (tgB s i)) (by rw [lZ_l2i, nI_255, tP_at _ (by omega) hfC]) ?_
                  refine x_aload_n C dX8_finish_119 7 rfl rfl ?_
                  refine x_getrN C fl_X8_25 (xO.1 137 _ rfl).1 rfl (xO.2.1 137 4 _ rfl) dX8_finish_120 ?_
                  refine x_iload C dX8_finish_123 5 rfl ?_
                  refine x_ialdN C (xO.1 142 _ rfl).1 (by omega) (by omega) dX8_finish_125 ?_
                  refine x_eqi (y := nI (lb i)) (by rw [hJ, up_ne _ _ (Ne.symm hu)]; exact (hlb i (by omega)).1) ?_
                  refine x_iaddN C dX8_finish_126 ?_
                  refine x_iaddN C dX8_finish_127 ?_
                  refine x_istore (lv' := [(8, .int (nI (cy + (tgB s i + (lb i))))), (7, .int (nI (l + 1))), (6, .int (x + 26)), (4, .long (lZ ((tP s (l + 1) / 2 ^ (8 * i) : Nat) : Int))), (2, .long (lZ ((s l + o2) / 67108864))), (10, .long (lZ ((s l) + o2))), (9, .int (nI i)), (0, .ref (A 137)), (1, .ref (A u))]) C dX8_finish_128 (Nat.lt_of_lt_of_eq (by decide) hN.symm) rfl ?_
                  refine x_aload_n C dX8_finish_130 8 rfl rfl ?_
                  refine x_iload C dX8_finish_131 6 rfl ?_
                  refine x_iload C dX8_finish_133 0 rfl ?_
                  refine x_sipush (v := nI 255) C dX8_finish_135 (by decide +kernel) ?_
                  refine x_iandN (q := 8) C (by omega) (by omega) rfl dX8_finish_138 ?_
                  refine x_iastN C hTu hu0 (by omega) (by omega) dX8_finish_139 (fun I3 eI3 => ?_)
                  refine x_iload C dX8_finish_140 0 rfl ?_
                  refine x_bipush (v := nI 8) C dX8_finish_142 (by decide +kernel) ?_
                  refine x_ishrN C (by omega) (by omega) dX8_finish_144 ?_
                  refine x_istore (lv' := [(8, .int (nI ((cy + (tgB s i + (lb i))) / 2 ^ 8))), (7, .int (nI (l + 1))), (6, .int (x + 26)), (4, .long (lZ ((tP s (l + 1) / 2 ^ (8 * i) : Nat) : Int))), (2, .long (lZ ((s l + o2) / 67108864))), (10, .long (lZ ((s l) + o2))), (9, .int (nI i)), (0, .ref (A 137)), (1, .ref (A u))]) C dX8_finish_145 (Nat.lt_of_lt_of_eq (by decide) hN.symm) rfl ?_
                  refine x_lload C dX8_finish_147 3 rfl ?_
                  refine x_bipush (v := nI 8) C dX8_finish_149 (by decide +kernel) ?_
                  refine x_lshr C dX8_finish_151 ?_
                  refine x_eql (y := lZ ((tP s (l + 1) / 2 ^ (8 * (i + 1)) : Nat) : Int)) (by rw [lZ_shrN bdC (by decide), show 8 * (i + 1) = 8 * i + 8 by omega, Nat.pow_add, ← Nat.div_div_eq_div_mul]) ?_
                  refine x_lstore (lv' := [(4, .long (lZ ((tP s (l + 1) / 2 ^ (8 * (i + 1)) : Nat) : Int))), (8, .int (nI ((cy + (tgB s i + (lb i))) / 2 ^ 8))), (7, .int (nI (l + 1))), (6, .int (x + 26)), (2, .long (lZ ((s l + o2) / 67108864))), (10, .long (lZ ((s l) + o2))), (9, .int (nI i)), (0, .ref (A 137)), (1, .ref (A u))]) C dX8_finish_152 (Nat.lt_of_lt_of_eq (by decide) hN.symm) rfl ?_
                  refine x_iinc (v := x + 26 + (-8)) (lv' := [(6, .int (x + 26 + (-8))), (4, .long (lZ ((tP s (l + 1) / 2 ^ (8 * (i + 1)) : Nat) : Int))), (8, .int (nI ((cy + (tgB s i + (lb i))) / 2 ^ 8))), (7, .int (nI (l + 1))), (2, .long (lZ ((s l + o2) / 67108864))), (10, .long (lZ ((s l) + o2))), (9, .int (nI i)), (0, .ref (A 137)), (1, .ref (A u))]) C dX8_finish_154 3 rfl (by rfl) (Nat.lt_of_lt_of_eq (by decide) hN.symm) rfl ?_
                  refine x_iinc (v := nI (i + 1)) (lv' := [(9, .int (nI (i + 1))), (6, .int (x + 26 + (-8))), (4, .long (lZ ((tP s (l + 1) / 2 ^ (8 * (i + 1)) : Nat) : Int))), (8, .int (nI ((cy + (tgB s i + (lb i))) / 2 ^ 8))), (7, .int (nI (l + 1))), (2, .long (lZ ((s l + o2) / 67108864))), (10, .long (lZ ((s l) + o2))), (0, .ref (A 137)), (1, .ref (A u))]) C dX8_finish_157 6 rfl (nI_inc 1) (Nat.lt_of_lt_of_eq (by decide) hN.symm) rfl ?_
                  refine x_goto (tgt := 53) C dX8_finish_160 (by decide) ?_
                  refine x_sub (lv' := _) [0, 3, 4, 1, 2, 5, 7, 8] rfl ?_
                  exact ih53 (i + 1) (l + 1) (x + 26 + (-8)) ((tP s (l + 1) / 2 ^ (8 * (i + 1)) : Nat) : Int) ((s l + o2) / 67108864) ((cy + (tgB s i + (lb i))) / 2 ^ 8) I3 (by omega) (by omega) (by omega) (by rw [ho2]; rfl) rfl (by rw [hx, x_inc26, x_dec8, show 8 * (i + 1) = 8 * i + 8 by omega, show 26 * (l + 1) = 26 * l + 26 by omega]) (fun _ => by omega) (by omega) (by rw [hcy]; rfl) (by rw [eI3, hJ]; simp only [up_eq, up_up]; exact congrArg (va_up I u) (by rw [upd_up]; exact fill_s (fun t => nI (cyB 0 (fun t => tgB s t + lb t) t)) _ (by rw [hcy]; rfl)))
        refine x_sub (lv' := _) [0, 1, 2, 3, 4, 5, 6, 7] rfl ?_
        exact L53 _ 0 0 (nI 0) 0 (ov * 5) 0 I (Nat.lt_succ_self _) (by omega) (by omega) (by rw [hov, show i0 = 5 by omega, Int.mul_comm]; rfl) (by simp [tP]) (by decide +kernel) (fun _ => by omega) (by omega) rfl (fill_0 I u _)
      · refine x_aload_n C dX8_finish_13 2 rfl rfl ?_
        refine x_getrN C fl_X8_15 (xO.1 137 _ rfl).1 rfl (xO.2.1 137 1 _ rfl) dX8_finish_14 ?_
        refine x_iload C dX8_finish_17 0 rfl ?_
        refine x_laldN C (xO.1 139 _ rfl).1 (by omega) (by omega) dX8_finish_19 ?_
        refine x_eql (y := lZ (s i0)) (hs i0 (by omega)) ?_
        refine x_lload_n C dX8_finish_20 1 rfl rfl ?_
        refine x_laddZ C dX8_finish_21 ?_
        refine x_bipush (v := nI 26) C dX8_finish_22 (by decide +kernel) ?_
        refine x_lshr C dX8_finish_24 ?_
        refine x_eql (y := lZ ((s i0 + ov) / 67108864)) (lZ_shr26 (by have := bs i0 (by omega); omega) (by have := bs i0 (by omega); omega)) ?_
        refine x_lstore_n (lv' := [(2, .long (lZ ((s i0 + ov) / 67108864))), (4, .int (nI i0)), (0, .ref (A 137)), (1, .ref (A u))]) C dX8_finish_25 rfl (Nat.lt_of_lt_of_eq (by decide) hN.symm) rfl ?_
        refine x_iinc (v := nI (i0 + 1)) (lv' := [(4, .int (nI (i0 + 1))), (2, .long (lZ ((s i0 + ov) / 67108864))), (0, .ref (A 137)), (1, .ref (A u))]) C dX8_finish_26 1 rfl (nI_inc 1) (Nat.lt_of_lt_of_eq (by decide) hN.symm) rfl ?_
        refine x_goto (tgt := 7) C dX8_finish_29 (by decide) ?_
        refine x_sub (lv' := _) [0, 1, 2, 3] rfl ?_
        exact ih7 (i0 + 1) ((s i0 + ov) / 67108864) (by omega) (by omega) (by rw [hov]; rfl)
  refine x_sub (lv' := _) [0, 1, 2, 3] rfl ?_
  exact L7 _ 0 5 (Nat.lt_succ_self _) (by omega) rfl

