theorem sg_0 (w : Nat → Int) : ∀ n, sg w (fun _ => 0) n = 0
  | 0 => rfl
  | n + 1 => by simp only [sg]; rw [sg_0 w n]; omega
theorem mv_small (v : Int) (hv : 0 ≤ v ∧ v ≤ 65535) : mv (fun j => if j = 0 then v else 0) = v := by
  unfold mv
  rw [sg_cg (g := va_up (fun _ => 0) 0 v) 16 (fun i _ => by unfold va_up; rfl), sg_up _ _ _ _ 16 (by omega), sg_0, show mwt 0 = 1 from rfl]
  unfold P5; omega
/-- the four numbers of the ladder -/
def vq (V : Nat → Int) : z4 := (V 0, V 2, V 1, V 3)
theorem lad_n {bt : Nat → Bool} {x : Int} {n : Nat} {b : Bool} {VK V2 V3 V5 : Nat → Int} (hb : bt (254 - n) = b) (h0 : vq VK = zLad x bt n) (h6 : V2 6 = x) (h7 : V2 7 = 121665) (h2 : vq V2 = zSw b (vq VK)) (h3 : vq V3 = zStM (V2 6) (V2 7) (V2 0) (V2 2) (V2 1) (V2 3)) (h5 : vq V5 = zSw b (vq V3)) : vq V5 = zLad x bt (n + 1) := by
  rw [h5, h3, h6, h7, zSt_m]
  show zSw b (zSt x (vq V2)) = _
  rw [h2, h0]
  simp only [zLad]; rw [hb]
theorem two8 {a b : Nat} (ha : a < 256) (hb : b < 256) : Int32.toInt64 (nI a ||| isl (nI b) (nI 8)) = lZ ((a + 256 * b : Nat) : Int) := by
  rw [nI_sl (by decide) (by omega), nI_or, or_add 8 (by omega), lZ_i (by omega), Nat.mul_comm b]
theorem gn_sets {l : Launch} {a0 : Nat} {D : va_G} {sa : Nat → Nat} {T : Nat → Option hKd} {I : Nat → Nat → Int32} {L : Nat → Nat → Int64} {R : Nat → Nat → Option Nat} {A : Nat → Nat} (mO : isM T R A a0) (o : Nat) (v : Int) (ho : o < 10) (hv : 0 ≤ v ∧ v ≤ 65535) {V : Nat → Int} {S : Nat → Nat} (hG : gN L V S)  : hM l a0 D sa yX11_sets cX11_sets 5 none { frames := 0, cells := 0, slots := 0, locals := 0 } [.ref (A 63), .int (nI o), .long (lZ v)] (T, I, L, R, A) (fun r G' => r = none ∧ ∃ L', G' = (T, I, L', R, A) ∧ gN L' (va_up V o v) (va_up S o 2)) := by
  obtain ⟨F, hF, hV⟩ := hG
  refine (ok_X11_sets mO o v ho F hF).imp ?_
  rintro w G' ⟨rfl, L', rfl, h1, _⟩
  refine ⟨rfl, L', rfl, gN.set hV h1 ?_ ?_⟩
  · rw [mv_cg if16]; exact mv_small v hv
  · intro i hi
    simp only [if_pos hi]
    by_cases e : i = 0
    · rw [if_pos e, if_pos e, if_pos e]; omega
    · rw [if_neg e, if_neg e, if_neg e]; omega
theorem gn_exch1 {l : Launch} {a0 : Nat} {D : va_G} {sa : Nat → Nat} {T : Nat → Option hKd} {I : Nat → Nat → Int32} {L : Nat → Nat → Int64} {R : Nat → Nat → Option Nat} {A : Nat → Nat} (mO : isM T R A a0) (a b : Nat) (ha : a < 10) (hb : b < 10) (hab : a ≠ b) {V : Nat → Int} {S : Nat → Nat} (hG : gN L V S) : hM l a0 D sa yX11_exchange cX11_exchange 7 none { frames := 0, cells := 0, slots := 0, locals := 0 } [.ref (A 63), .int (nI a), .int (nI b), .int (nI 1)] (T, I, L, R, A) (fun r G' => r = none ∧ ∃ L', G' = (T, I, L', R, A) ∧ gN L' (va_up (va_up V a (V b)) b (V a)) (va_up (va_up S a (S b)) b (S a))) := by
  obtain ⟨F, hF, hV⟩ := hG
  refine (ok_exch1 mO a b ha hb hab F hF).imp ?_
  rintro w G' ⟨rfl, L', rfl, h1, _⟩
  have lv16 : ∀ {n : Nat} {f g : Nat → Int}, lev n f → lev n (fun j => if j < 16 then f j else g j) := by
    intro n f g h
    match n, h with
    | 0, _ => exact trivial
    | 1, h => exact fun i hi => by have := h i hi; simp only [if_pos hi]; exact this
    | n + 2, h => exact fun i hi => by have := h i hi; simp only [if_pos hi]; exact this
  refine ⟨rfl, L', rfl, _, h1, fun p hp => ?_⟩
  by_cases c : p = b
  · subst c; rw [up_eq, up_eq, up_eq, mv_cg if16]; exact ⟨(hV a ha).1, lv16 (hV a ha).2⟩
  · rw [up_ne _ _ c, up_ne _ _ c, up_ne _ _ c]
    by_cases c2 : p = a
    · subst c2; rw [up_eq, up_eq, up_eq, mv_cg if16]; exact ⟨(hV b hb).1, lv16 (hV b hb).2⟩
    · rw [up_ne _ _ c2, up_ne _ _ c2, up_ne _ _ c2]; exact hV p hp
theorem g6 {K L4 : Nat → Nat → Int64} {b : Nat → Nat} (hb : ∀ j, j < 32 → b j < 256) (hP : ∀ t, t < 16 → K 10 (96 + t) = lZ ((b (2 * t) + 256 * b (2 * t + 1) : Nat) : Int)) (e : L4 = va_up K 10 (vp_updL (K 10) 111 (lZ (((b 30 + 256 * b 31) % 32768 : Nat) : Int)))) : gB L4 (va_up (gIv L4) 6 (mUp b)) ∧ ∀ o, o < 10 → mv (va_up (gIv L4) 6 (mUp b) o) = (va_up (fun p => mv (gIv L4 p)) 6 (ptV b)) o ∧ lev ((va_up (fun _ => 0) 6 2 : Nat → Nat) o) (va_up (gIv L4) 6 (mUp b) o) := by
  have hm : ∀ i, i < 16 → 0 ≤ mUp b i ∧ mUp b i ≤ 65535 := fun i hi => by
    unfold mUp
    by_cases c : i = 15
    · rw [if_pos c]; omega
    · rw [if_neg c]; have h1 := hb (2 * i) (by omega); have h2 := hb (2 * i + 1) (by omega); omega
  refine ⟨fun o ho i hi => ?_, fun o ho => ?_⟩
  · by_cases c : o = 6
    · subst c
      rw [up_eq, e, up_eq]
      unfold vp_updL mUp
      by_cases c2 : i = 15
      · rw [if_pos (by omega), if_pos c2]
      · rw [if_neg (by omega), if_neg c2]; exact hP i hi
    · rw [up_ne _ _ c]; exact (lZ_self _).symm
  · by_cases c : o = 6
    · subst c; rw [up_eq, up_eq, up_eq, mUp_mv b hb]
      exact ⟨rfl, fun i hi => by
        have := hm i hi; by_cases e : i = 0
        · rw [if_pos e, if_pos e]; omega
        · rw [if_neg e, if_neg e]; omega⟩
    · rw [up_ne _ _ c, up_ne _ _ c, up_ne _ _ c]; exact ⟨rfl, trivial⟩
def f7 (j : Nat) : Int := if j = 0 then 56129 else if j = 1 then 1 else 0
theorem g7 {M1 L5 : Nat → Nat → Int64} {F : Nat → Nat → Int} {V : Nat → Int} {S : Nat → Nat} (hV : ∀ o, o < 10 → mv (F o) = V o ∧ lev (S o) (F o)) (h : gB M1 (va_up F 7 (fun j => if j < 16 then (if j = 0 then 56129 else 0) else F 7 j))) (e : L5 = va_up M1 10 (vp_updL (M1 10) 113 (lZ 1))) : gN L5 (va_up V 7 121665) (va_up S 7 2) := by
  have h2 := h.w (o := 7) (i := 1) (by decide) e
  rw [up_eq, up_up] at h2
  have hf : ∀ i, i < 16 → va_up (fun j => if j < 16 then (if j = 0 then (56129 : Int) else 0) else F 7 j) 1 1 i = f7 i := fun i hi => by
    unfold va_up f7
    by_cases c : i = 1
    · rw [if_pos c, if_neg (by omega), if_pos c]
    · rw [if_neg c]; simp only [if_pos hi]; rw [if_neg c]
  refine gN.set hV h2 ?_ ?_
  · rw [mv_cg hf]; decide +kernel
  · intro i hi
    rw [hf i hi]
    unfold f7
    by_cases c : i = 0
    · rw [if_pos c, if_pos c, if_pos c]; omega
    · rw [if_neg c, if_neg c, if_neg c]; split <;> omega
theorem gn_packs {l : Launch} {a0 : Nat} {D : va_G} {sa : Nat → Nat} {T : Nat → Option hKd} {I : Nat → Nat → Int32} {L : Nat → Nat → Int64} {R : Nat → Nat → Option Nat} {A : Nat → Nat} (mO : isM T R A a0) (o u nu p : Nat) (ho : o < 10) {V : Nat → Int} {S : Nat → Nat} (hG : gN L V S) (hS : 2 ≤ S o) (hTu : T u = some (.inl (.int, nu))) (hu0 : a0 ≤ A u) (hnu : nu < 2 ^ 20) (hp : p + 32 ≤ nu) : hM l a0 D sa yX11_packs cX11_packs 10 none { frames := 1, cells := 0, slots := 0, locals := 24 } [.ref (A 63), .int (nI o), .ref (A u), .int (nI p)] (T, I, L, R, A) (fun r G' => r = none ∧ ∃ L', G' = (T, va_up I u (fun t => if p ≤ t ∧ t < p + 32 then nI (byN (V o) (t - p)) else I u t), L', R, A)) := by
  obtain ⟨F, hF, hV⟩ := hG
  exact ok_X11_packs mO o u nu p ho F hF (lev.sub (m := 2) (hV o ho).2 hS) (V o) (hV o ho).1 hTu hu0 hnu hp
set_option maxHeartbeats 4000000 in
set_option maxRecDepth 100000 in
theorem ok_X11_dh {l : Launch} {a0 : Nat} {D : va_G} {sa : Nat → Nat} {T : Nat → Option hKd} {I : Nat → Nat → Int32} {L : Nat → Nat → Int64} {R : Nat → Nat → Option Nat} {A : Nat → Nat} (mO : isM T R A a0) (a na sp c nc f u nu w : Nat) (b : Nat → Nat) (hTa : T a = some (.inl (.int, na))) (hna : na < 2 ^ 20) (hsp : sp + 32 ≤ na) (ha : a ≠ 12) (hTc : T c = some (.inl (.int, nc))) (hnc : nc < 2 ^ 20) (hf : f + 32 ≤ nc) (hc : c ≠ 12) (hTu : T u = some (.inl (.int, nu))) (hu0 : a0 ≤ A u) (hnu : nu < 2 ^ 20) (hw : w + 32 ≤ nu) (hu : u ≠ 12) (hb : ∀ j, j < 32 → I c (f + j) = nI (b j) ∧ b j < 256) : hM l a0 D sa yX11_dh cX11_dh 9 none { frames := 3, cells := 0, slots := 0, locals := 70 } [.ref (A 63), .ref (A a), .int (nI sp), .ref (A c), .int (nI f), .ref (A u), .int (nI w)] (T, I, L, R, A) (fun r G' => r = none ∧ ∃ I' L', G' = (T, I', L', R, A) ∧ I' u = (fun t => if w ≤ t ∧ t < w + 32 then nI (byN (dhV (bitS (scl (fun j => I a (sp + j)))) b) (t - w)) else I u t) ∧ fx [12, u] I I') := by
  refine hM.of (by decide +kernel) (Nat.le_of_ble_eq_true rfl) ?_
  intro z hl h0 hD hS hN C E
  subst hl; subst h0; subst hD; subst hS
  have C : hC z RX11 cX11_dh := C
  have hZ := E.2.2.2.1
  show hX z 0 0 (T, I, L, R, A) [(0, .ref (A 63)), (1, .ref (A a)), (2, .int (nI sp)), (3, .ref (A c)), (4, .int (nI f)), (5, .ref (A u)), (6, .int (nI w))] 0 []
  have hb2 : ∀ j, j < 32 → b j < 256 := fun j hj => (hb j hj).2
  refine x_aload_n C dX11_dh_0 1 rfl rfl ?_
  refine x_iload_n C dX11_dh_1 2 rfl rfl ?_
  refine x_aload_n C dX11_dh_2 0 rfl rfl ?_
  refine x_getrN C fl_X11_116 mO.1 rfl (mO.2.2 12 _ rfl).1 dX11_dh_3 ?_
  refine x_iconst (v := nI 0) C dX11_dh_6 (by decide +kernel) ?_
  refine x_bipush (v := nI 32) C dX11_dh_7 (by decide +kernel) ?_
  refine x_callS C (ok_X11_copy a 12 sp 0 32 na 32 hTa (mO.2.2 12 _ rfl).2.1 (mO.2.2 12 _ rfl).2.2 hsp (by decide) (by omega) (by decide) (fun e => absurd e ha)) ms_X11_copy ml_X11_270 rfl rfl (Nat.le_of_ble_eq_true rfl) (hrm (rm := { frames := 0, cells := 0, slots := 0, locals := 0 }) hZ ⟨Nat.le_of_ble_eq_true rfl, Nat.le_of_ble_eq_true rfl⟩) (hcs hZ ⟨Nat.le_of_ble_eq_true rfl, Nat.le_of_ble_eq_true rfl⟩) dX11_dh_9 (fun v G' hp => ?_)
  obtain ⟨rfl, rfl⟩ := hp
  show hX z 0 0 (T, (va_up I 12 (fun j => if 0 ≤ j ∧ j < 0 + 32 then I a (sp + (j - 0)) else I 12 j)), L, R, A) [(0, .ref (A 63)), (1, .ref (A a)), (2, .int (nI sp)), (3, .ref (A c)), (4, .int (nI f)), (5, .ref (A u)), (6, .int (nI w))] 12 []
  refine x_aload_n C dX11_dh_12 0 rfl rfl ?_
  refine x_getrN C fl_X11_116 mO.1 rfl (mO.2.2 12 _ rfl).1 dX11_dh_13 ?_
  refine x_iconst (v := nI 0) C dX11_dh_16 (by decide +kernel) ?_
  refine x_dup2 C dX11_dh_17 rfl rfl ?_
  refine x_ialdN C (mO.2.2 12 _ rfl).2.1 (by omega) (by omega) dX11_dh_18 ?_
  refine x_sipush (v := nI 248) C dX11_dh_19 (by decide +kernel) ?_
  refine x_iand C dX11_dh_22 ?_
  refine x_iastN C (mO.2.2 12 _ rfl).2.1 (mO.2.2 12 _ rfl).2.2 (by omega) (by omega) dX11_dh_23 (fun I1 eI1 => ?_)
  refine x_aload_n C dX11_dh_24 0 rfl rfl ?_
  refine x_getrN C fl_X11_116 mO.1 rfl (mO.2.2 12 _ rfl).1 dX11_dh_25 ?_
  refine x_bipush (v := nI 31) C dX11_dh_28 (by decide +kernel) ?_
  refine x_aload_n C dX11_dh_30 0 rfl rfl ?_
  refine x_getrN C fl_X11_116 mO.1 rfl (mO.2.2 12 _ rfl).1 dX11_dh_31 ?_
  refine x_bipush (v := nI 31) C dX11_dh_34 (by decide +kernel) ?_
  refine x_ialdN C (mO.2.2 12 _ rfl).2.1 (by omega) (by omega) dX11_dh_36 ?_
  refine x_bipush (v := nI 127) C dX11_dh_37 (by decide +kernel) ?_
  refine x_iand C dX11_dh_39 ?_
  refine x_bipush (v := nI 64) C dX11_dh_40 (by decide +kernel) ?_
  refine x_ior C dX11_dh_42 ?_
  refine x_iastN C (mO.2.2 12 _ rfl).2.1 (mO.2.2 12 _ rfl).2.2 (by omega) (by omega) dX11_dh_43 (fun I2 eI2 => ?_)
  have hIc : ∀ k, I2 c k = I c k := fun k => by rw [eI2, up_ne _ _ hc, eI1, up_ne _ _ hc, up_ne _ _ hc]
  have hscl : ∀ k, k < 32 → I2 12 k = scl (fun j => I a (sp + j)) k := fun k hk => by
    rw [eI2, up_eq]; unfold scl upd; rw [eI1, up_eq, up_eq]; unfold upd
    by_cases h31 : k = 31 <;> by_cases h0 : k = 0 <;> simp [h31, h0, hk] <;> omega
  refine x_iconst (v := nI 0) C dX11_dh_44 (by decide +kernel) ?_
  refine x_istore (lv' := [(7, .int (nI 0)), (0, .ref (A 63)), (1, .ref (A a)), (2, .int (nI sp)), (3, .ref (A c)), (4, .int (nI f)), (5, .ref (A u)), (6, .int (nI w))]) C dX11_dh_45 (Nat.lt_of_lt_of_eq (by decide) hN.symm) rfl ?_
  have L47 : ∀ (fuel_ : Nat) (i : Nat) (K : Nat → Nat → Int64), 16 - i < fuel_ → (i ≤ 16) → (∀ t, t < i → K 10 (96 + t) = lZ ((b (2 * t) + 256 * b (2 * t + 1) : Nat) : Int)) → hX z 0 0 (T, I2, K, R, A) [(7, .int (nI i)), (0, .ref (A 63)), (1, .ref (A a)), (2, .int (nI sp)), (3, .ref (A c)), (4, .int (nI f)), (5, .ref (A u)), (6, .int (nI w))] 47 [] := by
    intro fuel_
    induction fuel_ with
    | zero => intro i K hmz; exact absurd hmz (Nat.not_lt_zero _)
    | succ fuel_ ih47 =>
      intro i K hmz hi hP
      refine x_iload C dX11_dh_47 0 rfl ?_
      refine x_bipush (v := nI 16) C dX11_dh_49 (by decide +kernel) ?_
      refine x_icmp_geN (tgt := 95) C (by omega) (by omega) dX11_dh_51 (by decide) (fun c51 => ?_) (fun c51 => ?_)
      · have hi16 : i = 16 := by omega
        rw [hi16] at hP
        refine x_aload_n C dX11_dh_95 1 rfl rfl ?_
        refine x_getrN C fl_X11_109 mO.1 rfl (mO.2.2 10 _ rfl).1 dX11_dh_96 ?_
        refine x_bipush (v := nI 111) C dX11_dh_99 (by decide +kernel) ?_
        refine x_dup2 C dX11_dh_101 rfl rfl ?_
        refine x_laldN C (mO.2.2 10 _ rfl).2.1 (by omega) (by omega) dX11_dh_102 ?_
        refine x_eql (y := lZ ((b 30 + 256 * b 31 : Nat) : Int)) (hP 15 (by omega)) ?_
        refine x_ldc2 C dX11_dh_103 kc_X11_309 ?_
        refine x_eql (y := lZ 32767) (lZ_lit 32767) ?_
        refine x_land C dX11_dh_106 ?_
        refine x_eql (y := lZ (((b 30 + 256 * b 31) % 32768 : Nat) : Int)) ((lZ_and _ (k := 15) (by decide)).trans (by rw [show ((2 : Int) ^ 15) = ((32768 : Nat) : Int) from rfl, ← Int.natCast_emod])) ?_
        refine x_lastN C (mO.2.2 10 _ rfl).2.1 (mO.2.2 10 _ rfl).2.2 (by omega) (by omega) dX11_dh_107 (fun L3 eL3 => ?_)
        have h6 := g6 hb2 hP eL3
        refine x_aload_n C dX11_dh_108 1 rfl rfl ?_
        refine x_bipush (v := nI 7) C dX11_dh_109 (by decide +kernel) ?_
        refine x_ldc2 C dX11_dh_111 kc_X11_315 ?_
        refine x_eql (y := lZ 56129) (lZ_lit 56129) ?_
        refine x_callV C (ok_X11_sets mO 7 56129 (by decide) _ h6.1) mv_X11_sets ml_X11_317 mO.1 rfl rfl rfl (Nat.le_of_ble_eq_true rfl) (hrm (rm := { frames := 0, cells := 0, slots := 0, locals := 0 }) hZ ⟨Nat.le_of_ble_eq_true rfl, Nat.le_of_ble_eq_true rfl⟩) (hcs hZ ⟨Nat.le_of_ble_eq_true rfl, Nat.le_of_ble_eq_true rfl⟩) dX11_dh_114 (fun v G' hp => ?_)
        obtain ⟨rfl, M1, rfl, hM1, _⟩ := hp
        show hX z 0 0 (T, I2, M1, R, A) [(7, .int (nI i)), (0, .ref (A 63)), (1, .ref (A a)), (2, .int (nI sp)), (3, .ref (A c)), (4, .int (nI f)), (5, .ref (A u)), (6, .int (nI w))] 117 []
        refine x_aload_n C dX11_dh_117 1 rfl rfl ?_
        refine x_getrN C fl_X11_109 mO.1 rfl (mO.2.2 10 _ rfl).1 dX11_dh_118 ?_
        refine x_bipush (v := nI 113) C dX11_dh_121 (by decide +kernel) ?_
        refine x_lconst (v := lZ 1) C dX11_dh_123 (by decide +kernel) ?_
        refine x_lastN C (mO.2.2 10 _ rfl).2.1 (mO.2.2 10 _ rfl).2.2 (by omega) (by omega) dX11_dh_124 (fun L4 eL4 => ?_)
        have hn7 := g7 h6.2 hM1 eL4
        refine x_aload_n C dX11_dh_125 1 rfl rfl ?_
        refine x_iconst (v := nI 1) C dX11_dh_126 (by decide +kernel) ?_
        refine x_bipush (v := nI 6) C dX11_dh_127 (by decide +kernel) ?_
        refine x_callV C (gn_copies mO 1 6 (by decide) (by decide) hn7) mv_X11_copies ml_X11_304 mO.1 rfl rfl rfl (Nat.le_of_ble_eq_true rfl) (hrm (rm := { frames := 0, cells := 0, slots := 0, locals := 0 }) hZ ⟨Nat.le_of_ble_eq_true rfl, Nat.le_of_ble_eq_true rfl⟩) (hcs hZ ⟨Nat.le_of_ble_eq_true rfl, Nat.le_of_ble_eq_true rfl⟩) dX11_dh_129 (fun v G' hp => ?_)
        obtain ⟨rfl, M2, rfl, hM2⟩ := hp
        show hX z 0 0 (T, I2, M2, R, A) [(7, .int (nI i)), (0, .ref (A 63)), (1, .ref (A a)), (2, .int (nI sp)), (3, .ref (A c)), (4, .int (nI f)), (5, .ref (A u)), (6, .int (nI w))] 132 []
        refine x_aload_n C dX11_dh_132 1 rfl rfl ?_
        refine x_iconst (v := nI 0) C dX11_dh_133 (by decide +kernel) ?_
        refine x_lconst (v := lZ 1) C dX11_dh_134 (by decide +kernel) ?_
        refine x_callV C (gn_sets mO 0 1 (by decide) (by decide) hM2) mv_X11_sets ml_X11_317 mO.1 rfl rfl rfl (Nat.le_of_ble_eq_true rfl) (hrm (rm := { frames := 0, cells := 0, slots := 0, locals := 0 }) hZ ⟨Nat.le_of_ble_eq_true rfl, Nat.le_of_ble_eq_true rfl⟩) (hcs hZ ⟨Nat.le_of_ble_eq_true rfl, Nat.le_of_ble_eq_true rfl⟩) dX11_dh_135 (fun v G' hp => ?_)
        obtain ⟨rfl, M3, rfl, hM3⟩ := hp
        show hX z 0 0 (T, I2, M3, R, A) [(7, .int (nI i)), (0, .ref (A 63)), (1, .ref (A a)), (2, .int (nI sp)), (3, .ref (A c)), (4, .int (nI f)), (5, .ref (A u)), (6, .int (nI w))] 138 []
        refine x_aload_n C dX11_dh_138 1 rfl rfl ?_
        refine x_iconst (v := nI 2) C dX11_dh_139 (by decide +kernel) ?_
        refine x_lconst (v := lZ 0) C dX11_dh_140 (by decide +kernel) ?_
        refine x_callV C (gn_sets mO 2 0 (by decide) (by decide) hM3) mv_X11_sets ml_X11_317 mO.1 rfl rfl rfl (Nat.le_of_ble_eq_true rfl) (hrm (rm := { frames := 0, cells := 0, slots := 0, locals := 0 }) hZ ⟨Nat.le_of_ble_eq_true rfl, Nat.le_of_ble_eq_true rfl⟩) (hcs hZ ⟨Nat.le_of_ble_eq_true rfl, Nat.le_of_ble_eq_true rfl⟩) dX11_dh_141 (fun v G' hp => ?_)
        obtain ⟨rfl, M4, rfl, hM4⟩ := hp
        show hX z 0 0 (T, I2, M4, R, A) [(7, .int (nI i)), (0, .ref (A 63)), (1, .ref (A a)), (2, .int (nI sp)), (3, .ref (A c)), (4, .int (nI f)), (5, .ref (A u)), (6, .int (nI w))] 144 []
        refine x_aload_n C dX11_dh_144 1 rfl rfl ?_
        refine x_iconst (v := nI 3) C dX11_dh_145 (by decide +kernel) ?_
        refine x_lconst (v := lZ 1) C dX11_dh_146 (by decide +kernel) ?_
        refine x_callV C (gn_sets mO 3 1 (by decide) (by decide) hM4) mv_X11_sets ml_X11_317 mO.1 rfl rfl rfl (Nat.le_of_ble_eq_true rfl) (hrm (rm := { frames := 0, cells := 0, slots := 0, locals := 0 }) hZ ⟨Nat.le_of_ble_eq_true rfl, Nat.le_of_ble_eq_true rfl⟩) (hcs hZ ⟨Nat.le_of_ble_eq_true rfl, Nat.le_of_ble_eq_true rfl⟩) dX11_dh_147 (fun v G' hp => ?_)
        obtain ⟨rfl, M5, rfl, hM5⟩ := hp
        show hX z 0 0 (T, I2, M5, R, A) [(7, .int (nI i)), (0, .ref (A 63)), (1, .ref (A a)), (2, .int (nI sp)), (3, .ref (A c)), (4, .int (nI f)), (5, .ref (A u)), (6, .int (nI w))] 150 []
        refine x_sipush (v := nI 254) C dX11_dh_150 (by decide +kernel) ?_
        refine x_istore (lv' := [(7, .int (nI 254)), (0, .ref (A 63)), (1, .ref (A a)), (2, .int (nI sp)), (3, .ref (A c)), (4, .int (nI f)), (5, .ref (A u)), (6, .int (nI w))]) C dX11_dh_153 (Nat.lt_of_lt_of_eq (by decide) hN.symm) rfl ?_
        have L155 : ∀ (fuel_ : Nat) (m : Nat) (x : Int32) (K : Nat → Nat → Int64) (VK : Nat → Int), m < fuel_ → (m ≤ 255) → (x = nI m - 1) → (gN K VK s0) → (VK 6 = ptV b) → (VK 7 = 121665) → (vq VK = zLad (ptV b) (bitS (scl (fun j => I a (sp + j)))) (255 - m)) → hX z 0 0 (T, I2, K, R, A) [(7, .int x), (0, .ref (A 63)), (1, .ref (A a)), (2, .int (nI sp)), (3, .ref (A c)), (4, .int (nI f)), (5, .ref (A u)), (6, .int (nI w))] 155 [] := by
          intro fuel_
          induction fuel_ with
          | zero => intro m x K VK hmz; exact absurd hmz (Nat.not_lt_zero _)
          | succ fuel_ ih155 =>
            intro m x K VK hmz hm5 hx hK hV6 hV7 hq
            refine x_iload C dX11_dh_155 0 rfl ?_
            refine x_if_lt (tgt := 231) C dX11_dh_157 (by decide) (fun c157 => ?_) (fun c157 => ?_)
            · have hm0 : m = 0 := (m1_lt m (by omega)).mp (by rw [← hx]; exact c157)
              subst hm0
              refine x_aload_n C dX11_dh_231 1 rfl rfl ?_
              refine x_callV C (ok_X11_invert mO hK) mv_X11_invert ml_X11_328 mO.1 rfl rfl rfl (Nat.le_of_ble_eq_true rfl) (hrm (rm := { frames := 0, cells := 0, slots := 0, locals := 0 }) hZ ⟨Nat.le_of_ble_eq_true rfl, Nat.le_of_ble_eq_true rfl⟩) (hcs hZ ⟨Nat.le_of_ble_eq_true rfl, Nat.le_of_ble_eq_true rfl⟩) dX11_dh_232 (fun v G' hp => ?_)
              obtain ⟨rfl, Y1, rfl, hY1⟩ := hp
              show hX z 0 0 (T, I2, Y1, R, A) [(7, .int x), (0, .ref (A 63)), (1, .ref (A a)), (2, .int (nI sp)), (3, .ref (A c)), (4, .int (nI f)), (5, .ref (A u)), (6, .int (nI w))] 235 []
              refine x_aload_n C dX11_dh_235 1 rfl rfl ?_
              refine x_iconst (v := nI 0) C dX11_dh_236 (by decide +kernel) ?_
              refine x_iconst (v := nI 0) C dX11_dh_237 (by decide +kernel) ?_
              refine x_bipush (v := nI 8) C dX11_dh_238 (by decide +kernel) ?_
              refine x_callV C (gn_times mO 0 0 8 (by decide) (by decide) (by decide) hY1 (by decide) (by decide)) mv_X11_times ml_X11_301 mO.1 rfl rfl rfl (Nat.le_of_ble_eq_true rfl) (hrm (rm := { frames := 0, cells := 0, slots := 0, locals := 0 }) hZ ⟨Nat.le_of_ble_eq_true rfl, Nat.le_of_ble_eq_true rfl⟩) (hcs hZ ⟨Nat.le_of_ble_eq_true rfl, Nat.le_of_ble_eq_true rfl⟩) dX11_dh_240 (fun v G' hp => ?_)
              obtain ⟨rfl, Y2, rfl, hY2⟩ := hp
              show hX z 0 0 (T, I2, Y2, R, A) [(7, .int x), (0, .ref (A 63)), (1, .ref (A a)), (2, .int (nI sp)), (3, .ref (A c)), (4, .int (nI f)), (5, .ref (A u)), (6, .int (nI w))] 243 []
              refine x_aload_n C dX11_dh_243 1 rfl rfl ?_
              refine x_iconst (v := nI 0) C dX11_dh_244 (by decide +kernel) ?_
              refine x_aload C dX11_dh_245 6 rfl ?_
              refine x_iload C dX11_dh_247 7 rfl ?_
              refine x_callV C (gn_packs mO 0 u nu w (by decide) hY2 (by decide) hTu hu0 hnu hw) mv_X11_packs ml_X11_331 mO.1 rfl rfl rfl (Nat.le_of_ble_eq_true rfl) (hrm (rm := { frames := 0, cells := 0, slots := 0, locals := 0 }) hZ ⟨Nat.le_of_ble_eq_true rfl, Nat.le_of_ble_eq_true rfl⟩) (hcs hZ ⟨Nat.le_of_ble_eq_true rfl, Nat.le_of_ble_eq_true rfl⟩) dX11_dh_249 (fun v G' hp => ?_)
              obtain ⟨rfl, Y3, rfl⟩ := hp
              show hX z 0 0 (T, (va_up I2 u (fun t => if w ≤ t ∧ t < w + 32 then nI (byN (VK 0 * zPw (VK 2) 254 % P5) (t - w)) else I2 u t)), Y3, R, A) [(7, .int x), (0, .ref (A 63)), (1, .ref (A a)), (2, .int (nI sp)), (3, .ref (A c)), (4, .int (nI f)), (5, .ref (A u)), (6, .int (nI w))] 252 []
              exact x_vret C E (Nat.le_of_ble_eq_true rfl) (Nat.le_of_ble_eq_true rfl) dX11_dh_252 (⟨rfl, _, _, rfl, by
                    rw [up_eq, show I2 u = I u by rw [eI2, up_ne _ _ hu, eI1, up_ne _ _ hu, up_ne _ _ hu]]
                    have q1 : VK 0 = (zLad (ptV b) (bitS (scl (fun j => I a (sp + j)))) 255).1 := congrArg (fun q : z4 => q.1) hq
                    have q2 : VK 2 = (zLad (ptV b) (bitS (scl (fun j => I a (sp + j)))) 255).2.1 := congrArg (fun q : z4 => q.2.1) hq
                    rw [q1, q2]; rfl, by rw [eI2, eI1]; exact ((((fx.rf.up (by simp)).up (by simp)).up (by simp)).up (by simp))⟩)
            · have hm1 : 0 < m := by
                have : ¬ m = 0 := fun e => c157 (by rw [hx]; exact (m1_lt m (by omega)).mpr e)
                omega
              have hx2 : x = nI (m - 1) := by rw [hx]; exact m1_eq hm1
              refine x_aload_n C dX11_dh_160 1 rfl rfl ?_
              refine x_getrN C fl_X11_116 mO.1 rfl (mO.2.2 12 _ rfl).1 dX11_dh_161 ?_
              refine x_iload C dX11_dh_164 0 rfl ?_
              refine x_eqi (y := nI (m - 1)) hx2 ?_
              refine x_bipush (v := nI 8) C dX11_dh_166 (by decide +kernel) ?_
              refine x_idivN C (by omega) (by omega) (by omega) dX11_dh_168 ?_
              refine x_ialdN C (mO.2.2 12 _ rfl).2.1 (by omega) (by omega) dX11_dh_169 ?_
              refine x_eqi (y := scl (fun j => I a (sp + j)) ((m - 1) / 8)) (hscl _ (by omega)) ?_
              refine x_iload C dX11_dh_170 0 rfl ?_
              refine x_eqi (y := nI (m - 1)) hx2 ?_
              refine x_bipush (v := nI 8) C dX11_dh_172 (by decide +kernel) ?_
              refine x_iremN C (by omega) (by omega) (by omega) dX11_dh_174 ?_
              refine x_ishr C dX11_dh_175 ?_
              refine x_iconst (v := nI 1) C dX11_dh_176 (by decide +kernel) ?_
              refine x_iand C dX11_dh_177 ?_
              refine x_iconst (v := nI 1) C dX11_dh_178 (by decide +kernel) ?_
              refine x_icmp_ne (tgt := 186) C dX11_dh_179 (by decide) (fun c179 => ?_) (fun c179 => ?_)
              · have hbit : (bitS (scl (fun j => I a (sp + j)))) (m - 1) = false := decide_eq_false c179
                refine x_iconst (v := nI 0) C dX11_dh_186 (by decide +kernel) ?_
                refine x_istore (lv' := [(8, .int (nI 0)), (7, .int x), (0, .ref (A 63)), (1, .ref (A a)), (2, .int (nI sp)), (3, .ref (A c)), (4, .int (nI f)), (5, .ref (A u)), (6, .int (nI w))]) C dX11_dh_187 (Nat.lt_of_lt_of_eq (by decide) hN.symm) rfl ?_
                refine x_aload_n C dX11_dh_189 2 rfl rfl ?_
                refine x_iconst (v := nI 0) C dX11_dh_190 (by decide +kernel) ?_
                refine x_iconst (v := nI 1) C dX11_dh_191 (by decide +kernel) ?_
                refine x_iload C dX11_dh_192 0 rfl ?_
                refine x_callV C (ok_exch0 mO 0 1) mv_X11_exchange ml_X11_321 mO.1 rfl rfl rfl (Nat.le_of_ble_eq_true rfl) (hrm (rm := { frames := 0, cells := 0, slots := 0, locals := 0 }) hZ ⟨Nat.le_of_ble_eq_true rfl, Nat.le_of_ble_eq_true rfl⟩) (hcs hZ ⟨Nat.le_of_ble_eq_true rfl, Nat.le_of_ble_eq_true rfl⟩) dX11_dh_194 (fun v G' hp => ?_)
                obtain ⟨rfl, rfl⟩ := hp
                show hX z 0 0 (T, I2, K, R, A) [(8, .int (nI 0)), (7, .int x), (0, .ref (A 63)), (1, .ref (A a)), (2, .int (nI sp)), (3, .ref (A c)), (4, .int (nI f)), (5, .ref (A u)), (6, .int (nI w))] 197 []
                refine x_aload_n C dX11_dh_197 2 rfl rfl ?_
                refine x_iconst (v := nI 2) C dX11_dh_198 (by decide +kernel) ?_
                refine x_iconst (v := nI 3) C dX11_dh_199 (by decide +kernel) ?_
                refine x_iload C dX11_dh_200 0 rfl ?_
                refine x_callV C (ok_exch0 mO 2 3) mv_X11_exchange ml_X11_321 mO.1 rfl rfl rfl (Nat.le_of_ble_eq_true rfl) (hrm (rm := { frames := 0, cells := 0, slots := 0, locals := 0 }) hZ ⟨Nat.le_of_ble_eq_true rfl, Nat.le_of_ble_eq_true rfl⟩) (hcs hZ ⟨Nat.le_of_ble_eq_true rfl, Nat.le_of_ble_eq_true rfl⟩) dX11_dh_202 (fun v G' hp => ?_)
                obtain ⟨rfl, rfl⟩ := hp
                show hX z 0 0 (T, I2, K, R, A) [(8, .int (nI 0)), (7, .int x), (0, .ref (A 63)), (1, .ref (A a)), (2, .int (nI sp)), (3, .ref (A c)), (4, .int (nI f)), (5, .ref (A u)), (6, .int (nI w))] 205 []
                refine x_aload_n C dX11_dh_205 2 rfl rfl ?_
                refine x_callV C (ok_X11_ladderStep mO hK) mv_X11_ladderStep ml_X11_325 mO.1 rfl rfl rfl (Nat.le_of_ble_eq_true rfl) (hrm (rm := { frames := 0, cells := 0, slots := 0, locals := 0 }) hZ ⟨Nat.le_of_ble_eq_true rfl, Nat.le_of_ble_eq_true rfl⟩) (hcs hZ ⟨Nat.le_of_ble_eq_true rfl, Nat.le_of_ble_eq_true rfl⟩) dX11_dh_206 (fun v G' hp => ?_)
                obtain ⟨rfl, X3, V3, rfl, hX3, e6, e7, eq3⟩ := hp
                show hX z 0 0 (T, I2, X3, R, A) [(8, .int (nI 0)), (7, .int x), (0, .ref (A 63)), (1, .ref (A a)), (2, .int (nI sp)), (3, .ref (A c)), (4, .int (nI f)), (5, .ref (A u)), (6, .int (nI w))] 209 []
                refine x_aload_n C dX11_dh_209 2 rfl rfl ?_
                refine x_iconst (v := nI 0) C dX11_dh_210 (by decide +kernel) ?_
                refine x_iconst (v := nI 1) C dX11_dh_211 (by decide +kernel) ?_
                refine x_iload C dX11_dh_212 0 rfl ?_
                refine x_callV C (ok_exch0 mO 0 1) mv_X11_exchange ml_X11_321 mO.1 rfl rfl rfl (Nat.le_of_ble_eq_true rfl) (hrm (rm := { frames := 0, cells := 0, slots := 0, locals := 0 }) hZ ⟨Nat.le_of_ble_eq_true rfl, Nat.le_of_ble_eq_true rfl⟩) (hcs hZ ⟨Nat.le_of_ble_eq_true rfl, Nat.le_of_ble_eq_true rfl⟩) dX11_dh_214 (fun v G' hp => ?_)
                obtain ⟨rfl, rfl⟩ := hp
                show hX z 0 0 (T, I2, X3, R, A) [(8, .int (nI 0)), (7, .int x), (0, .ref (A 63)), (1, .ref (A a)), (2, .int (nI sp)), (3, .ref (A c)), (4, .int (nI f)), (5, .ref (A u)), (6, .int (nI w))] 217 []
                refine x_aload_n C dX11_dh_217 2 rfl rfl ?_
                refine x_iconst (v := nI 2) C dX11_dh_218 (by decide +kernel) ?_
                refine x_iconst (v := nI 3) C dX11_dh_219 (by decide +kernel) ?_
                refine x_iload C dX11_dh_220 0 rfl ?_
                refine x_callV C (ok_exch0 mO 2 3) mv_X11_exchange ml_X11_321 mO.1 rfl rfl rfl (Nat.le_of_ble_eq_true rfl) (hrm (rm := { frames := 0, cells := 0, slots := 0, locals := 0 }) hZ ⟨Nat.le_of_ble_eq_true rfl, Nat.le_of_ble_eq_true rfl⟩) (hcs hZ ⟨Nat.le_of_ble_eq_true rfl, Nat.le_of_ble_eq_true rfl⟩) dX11_dh_222 (fun v G' hp => ?_)
                obtain ⟨rfl, rfl⟩ := hp
                show hX z 0 0 (T, I2, X3, R, A) [(8, .int (nI 0)), (7, .int x), (0, .ref (A 63)), (1, .ref (A a)), (2, .int (nI sp)), (3, .ref (A c)), (4, .int (nI f)), (5, .ref (A u)), (6, .int (nI w))] 225 []
                refine x_iinc (v := x + (-1)) (lv' := [(7, .int (x + (-1))), (8, .int (nI 0)), (0, .ref (A 63)), (1, .ref (A a)), (2, .int (nI sp)), (3, .ref (A c)), (4, .int (nI f)), (5, .ref (A u)), (6, .int (nI w))]) C dX11_dh_225 1 rfl (by rfl) (Nat.lt_of_lt_of_eq (by decide) hN.symm) rfl ?_
                refine x_goto (tgt := 155) C dX11_dh_228 (by decide) ?_
                refine x_sub (lv' := _) [0, 2, 3, 4, 5, 6, 7, 8] rfl ?_
                exact ih155 (m - 1) (x + (-1)) X3 V3 (by omega) (by omega) (by rw [hx2, m1_dec]) hX3 (e6.trans hV6) (e7.trans hV7) (by rw [show 255 - (m - 1) = (255 - m) + 1 by omega]; exact lad_n (b := false) (V2 := VK) (V3 := V3) (VK := VK) (by rw [show 254 - (255 - m) = m - 1 by omega]; exact hbit) hq hV6 hV7 rfl eq3 rfl)
              · have hbit : (bitS (scl (fun j => I a (sp + j)))) (m - 1) = true := decide_eq_true c179
                refine x_iconst (v := nI 1) C dX11_dh_182 (by decide +kernel) ?_
                refine x_goto (tgt := 187) C dX11_dh_183 (by decide) ?_
                refine x_istore (lv' := [(8, .int (nI 1)), (7, .int x), (0, .ref (A 63)), (1, .ref (A a)), (2, .int (nI sp)), (3, .ref (A c)), (4, .int (nI f)), (5, .ref (A u)), (6, .int (nI w))]) C dX11_dh_187 (Nat.lt_of_lt_of_eq (by decide) hN.symm) rfl ?_
                refine x_aload_n C dX11_dh_189 2 rfl rfl ?_
                refine x_iconst (v := nI 0) C dX11_dh_190 (by decide +kernel) ?_
                refine x_iconst (v := nI 1) C dX11_dh_191 (by decide +kernel) ?_
                refine x_iload C dX11_dh_192 0 rfl ?_
                refine x_callV C (gn_exch1 mO 0 1 (by decide) (by decide) (by decide) hK) mv_X11_exchange ml_X11_321 mO.1 rfl rfl rfl (Nat.le_of_ble_eq_true rfl) (hrm (rm := { frames := 0, cells := 0, slots := 0, locals := 0 }) hZ ⟨Nat.le_of_ble_eq_true rfl, Nat.le_of_ble_eq_true rfl⟩) (hcs hZ ⟨Nat.le_of_ble_eq_true rfl, Nat.le_of_ble_eq_true rfl⟩) dX11_dh_194 (fun v G' hp => ?_)
                obtain ⟨rfl, X1, rfl, hX1⟩ := hp
                show hX z 0 0 (T, I2, X1, R, A) [(8, .int (nI 1)), (7, .int x), (0, .ref (A 63)), (1, .ref (A a)), (2, .int (nI sp)), (3, .ref (A c)), (4, .int (nI f)), (5, .ref (A u)), (6, .int (nI w))] 197 []
                refine x_aload_n C dX11_dh_197 2 rfl rfl ?_
                refine x_iconst (v := nI 2) C dX11_dh_198 (by decide +kernel) ?_
                refine x_iconst (v := nI 3) C dX11_dh_199 (by decide +kernel) ?_
                refine x_iload C dX11_dh_200 0 rfl ?_
                refine x_callV C (gn_exch1 mO 2 3 (by decide) (by decide) (by decide) hX1) mv_X11_exchange ml_X11_321 mO.1 rfl rfl rfl (Nat.le_of_ble_eq_true rfl) (hrm (rm := { frames := 0, cells := 0, slots := 0, locals := 0 }) hZ ⟨Nat.le_of_ble_eq_true rfl, Nat.le_of_ble_eq_true rfl⟩) (hcs hZ ⟨Nat.le_of_ble_eq_true rfl, Nat.le_of_ble_eq_true rfl⟩) dX11_dh_202 (fun v G' hp => ?_)
                obtain ⟨rfl, X2, rfl, hX2⟩ := hp
                show hX z 0 0 (T, I2, X2, R, A) [(8, .int (nI 1)), (7, .int x), (0, .ref (A 63)), (1, .ref (A a)), (2, .int (nI sp)), (3, .ref (A c)), (4, .int (nI f)), (5, .ref (A u)), (6, .int (nI w))] 205 []
                refine x_aload_n C dX11_dh_205 2 rfl rfl ?_
                refine x_callV C (ok_X11_ladderStep mO (hX2.sub (by decide))) mv_X11_ladderStep ml_X11_325 mO.1 rfl rfl rfl (Nat.le_of_ble_eq_true rfl) (hrm (rm := { frames := 0, cells := 0, slots := 0, locals := 0 }) hZ ⟨Nat.le_of_ble_eq_true rfl, Nat.le_of_ble_eq_true rfl⟩) (hcs hZ ⟨Nat.le_of_ble_eq_true rfl, Nat.le_of_ble_eq_true rfl⟩) dX11_dh_206 (fun v G' hp => ?_)
                obtain ⟨rfl, X3, V3, rfl, hX3, e6, e7, eq3⟩ := hp
                show hX z 0 0 (T, I2, X3, R, A) [(8, .int (nI 1)), (7, .int x), (0, .ref (A 63)), (1, .ref (A a)), (2, .int (nI sp)), (3, .ref (A c)), (4, .int (nI f)), (5, .ref (A u)), (6, .int (nI w))] 209 []
                refine x_aload_n C dX11_dh_209 2 rfl rfl ?_
                refine x_iconst (v := nI 0) C dX11_dh_210 (by decide +kernel) ?_
                refine x_iconst (v := nI 1) C dX11_dh_211 (by decide +kernel) ?_
                refine x_iload C dX11_dh_212 0 rfl ?_
                refine x_callV C (gn_exch1 mO 0 1 (by decide) (by decide) (by decide) hX3) mv_X11_exchange ml_X11_321 mO.1 rfl rfl rfl (Nat.le_of_ble_eq_true rfl) (hrm (rm := { frames := 0, cells := 0, slots := 0, locals := 0 }) hZ ⟨Nat.le_of_ble_eq_true rfl, Nat.le_of_ble_eq_true rfl⟩) (hcs hZ ⟨Nat.le_of_ble_eq_true rfl, Nat.le_of_ble_eq_true rfl⟩) dX11_dh_214 (fun v G' hp => ?_)
                obtain ⟨rfl, X4, rfl, hX4⟩ := hp
                show hX z 0 0 (T, I2, X4, R, A) [(8, .int (nI 1)), (7, .int x), (0, .ref (A 63)), (1, .ref (A a)), (2, .int (nI sp)), (3, .ref (A c)), (4, .int (nI f)), (5, .ref (A u)), (6, .int (nI w))] 217 []
                refine x_aload_n C dX11_dh_217 2 rfl rfl ?_
                refine x_iconst (v := nI 2) C dX11_dh_218 (by decide +kernel) ?_
                refine x_iconst (v := nI 3) C dX11_dh_219 (by decide +kernel) ?_
                refine x_iload C dX11_dh_220 0 rfl ?_
                refine x_callV C (gn_exch1 mO 2 3 (by decide) (by decide) (by decide) hX4) mv_X11_exchange ml_X11_321 mO.1 rfl rfl rfl (Nat.le_of_ble_eq_true rfl) (hrm (rm := { frames := 0, cells := 0, slots := 0, locals := 0 }) hZ ⟨Nat.le_of_ble_eq_true rfl, Nat.le_of_ble_eq_true rfl⟩) (hcs hZ ⟨Nat.le_of_ble_eq_true rfl, Nat.le_of_ble_eq_true rfl⟩) dX11_dh_222 (fun v G' hp => ?_)
                obtain ⟨rfl, X5, rfl, hX5⟩ := hp
                show hX z 0 0 (T, I2, X5, R, A) [(8, .int (nI 1)), (7, .int x), (0, .ref (A 63)), (1, .ref (A a)), (2, .int (nI sp)), (3, .ref (A c)), (4, .int (nI f)), (5, .ref (A u)), (6, .int (nI w))] 225 []
                refine x_iinc (v := x + (-1)) (lv' := [(7, .int (x + (-1))), (8, .int (nI 1)), (0, .ref (A 63)), (1, .ref (A a)), (2, .int (nI sp)), (3, .ref (A c)), (4, .int (nI f)), (5, .ref (A u)), (6, .int (nI w))]) C dX11_dh_225 1 rfl (by rfl) (Nat.lt_of_lt_of_eq (by decide) hN.symm) rfl ?_
                refine x_goto (tgt := 155) C dX11_dh_228 (by decide) ?_
                refine x_sub (lv' := _) [0, 2, 3, 4, 5, 6, 7, 8] rfl ?_
                exact ih155 (m - 1) (x + (-1)) X5 (va_up (va_up (va_up (va_up V3 0 (V3 1)) 1 (V3 0)) 2 (V3 3)) 3 (V3 2)) (by omega) (by omega) (by rw [hx2, m1_dec]) (hX5.sub (by decide)) (e6.trans hV6) (e7.trans hV7) (by rw [show 255 - (m - 1) = (255 - m) + 1 by omega]; exact lad_n (b := true) (V2 := (va_up (va_up (va_up (va_up VK 0 (VK 1)) 1 (VK 0)) 2 (VK 3)) 3 (VK 2))) (V3 := V3) (VK := VK) (by rw [show 254 - (255 - m) = m - 1 by omega]; exact hbit) hq hV6 hV7 rfl eq3 rfl)
        refine x_sub (lv' := _) [0, 1, 2, 3, 4, 5, 6, 7] rfl ?_
        exact L155 _ 255 (nI 254) M5 (va_up (va_up (va_up (va_up (va_up (va_up (fun p => mv (gIv L3 p)) 6 (ptV b)) 7 121665) 1 (ptV b)) 0 1) 2 0) 3 1) (Nat.lt_succ_self _) (by omega) (by decide +kernel) (hM5.sub (by decide)) rfl rfl rfl
      · refine x_aload_n C dX11_dh_54 1 rfl rfl ?_
        refine x_getrN C fl_X11_109 mO.1 rfl (mO.2.2 10 _ rfl).1 dX11_dh_55 ?_
        refine x_bipush (v := nI 96) C dX11_dh_58 (by decide +kernel) ?_
        refine x_iload C dX11_dh_60 0 rfl ?_
        refine x_iaddN C dX11_dh_62 ?_
        refine x_aload_n C dX11_dh_63 4 rfl rfl ?_
        refine x_iload C dX11_dh_64 5 rfl ?_
        refine x_iconst (v := nI 2) C dX11_dh_66 (by decide +kernel) ?_
        refine x_iload C dX11_dh_67 0 rfl ?_
        refine x_imulN C dX11_dh_69 ?_
        refine x_iaddN C dX11_dh_70 ?_
        refine x_ialdN C hTc (by omega) (by omega) dX11_dh_71 ?_
        refine x_eqi (y := nI (b (2 * i))) ((hIc _).trans (hb (2 * i) (by omega)).1) ?_
        refine x_aload_n C dX11_dh_72 4 rfl rfl ?_
        refine x_iload C dX11_dh_73 5 rfl ?_
        refine x_iconst (v := nI 2) C dX11_dh_75 (by decide +kernel) ?_
        refine x_iload C dX11_dh_76 0 rfl ?_
        refine x_imulN C dX11_dh_78 ?_
        refine x_iaddN C dX11_dh_79 ?_
        refine x_iconst (v := nI 1) C dX11_dh_80 (by decide +kernel) ?_
        refine x_iaddN C dX11_dh_81 ?_
        refine x_ialdN C hTc (by omega) (by omega) dX11_dh_82 ?_
        refine x_eqi (y := nI (b (2 * i + 1))) ((hIc _).trans (hb (2 * i + 1) (by omega)).1) ?_
        refine x_bipush (v := nI 8) C dX11_dh_83 (by decide +kernel) ?_
        refine x_ishl C dX11_dh_85 ?_
        refine x_ior C dX11_dh_86 ?_
        refine x_i2l C dX11_dh_87 ?_
        refine x_eql (y := lZ ((b (2 * i) + 256 * b (2 * i + 1) : Nat) : Int)) (two8 (hb2 _ (by omega)) (hb2 _ (by omega))) ?_
        refine x_lastN C (mO.2.2 10 _ rfl).2.1 (mO.2.2 10 _ rfl).2.2 (by omega) (by omega) dX11_dh_88 (fun L5 eL5 => ?_)
        refine x_iinc (v := nI (i + 1)) (lv' := [(7, .int (nI (i + 1))), (0, .ref (A 63)), (1, .ref (A a)), (2, .int (nI sp)), (3, .ref (A c)), (4, .int (nI f)), (5, .ref (A u)), (6, .int (nI w))]) C dX11_dh_89 0 rfl (nI_inc 1) (Nat.lt_of_lt_of_eq (by decide) hN.symm) rfl ?_
        refine x_goto (tgt := 47) C dX11_dh_92 (by decide) ?_
        refine x_sub (lv' := _) [0, 1, 2, 3, 4, 5, 6, 7] rfl ?_
        exact ih47 (i + 1) L5 (by omega) (by omega) (lt_s' (fun t ht => by rw [eL5, up_Ln (by omega)]; exact hP t ht) (by rw [eL5, up_Ls]))
  refine x_sub (lv' := _) [0, 1, 2, 3, 4, 5, 6, 7] rfl ?_
  exact L47 _ 0 L (Nat.lt_succ_self _) (by omega) (fun t ht => absurd ht (by omega))

def b9 (j : Nat) : Nat := if j = 0 then 9 else 0
/-- the open part of a secret's key: its bytes -/
def pubF (s : Nat → Int32) (j : Nat) : Int32 := nI (byN (dhV (bitS (scl s)) b9) j)
set_option maxHeartbeats 4000000 in
set_option maxRecDepth 100000 in
theorem ok_X11_publicOf {l : Launch} {a0 : Nat} {D : va_G} {sa : Nat → Nat} {T : Nat → Option hKd} {I : Nat → Nat → Int32} {L : Nat → Nat → Int64} {R : Nat → Nat → Option Nat} {A : Nat → Nat} (mO : isM T R A a0) (a na sp u nu w : Nat) (hTa : T a = some (.inl (.int, na))) (hna : na < 2 ^ 20) (hsp : sp + 32 ≤ na) (ha : a ≠ 12) (ha2 : a ≠ 13) (hTu : T u = some (.inl (.int, nu))) (hu0 : a0 ≤ A u) (hnu : nu < 2 ^ 20) (hw : w + 32 ≤ nu) (hu : u ≠ 12 ∧ u ≠ 13) (h13 : ∀ j, 0 < j → j < 32 → I 13 j = 0) : hM l a0 D sa yX11_publicOf cX11_publicOf 5 none { frames := 4, cells := 0, slots := 0, locals := 98 } [.ref (A 63), .ref (A a), .int (nI sp), .ref (A u), .int (nI w)] (T, I, L, R, A) (fun r G' => r = none ∧ ∃ I' L', G' = (T, I', L', R, A) ∧ I' u = (fun t => if w ≤ t ∧ t < w + 32 then pubF (fun j => I a (sp + j)) (t - w) else I u t) ∧ (∀ j, 0 < j → j < 32 → I' 13 j = 0) ∧ fx [12, 13, u] I I') := by
  refine hM.of (by decide +kernel) (Nat.le_of_ble_eq_true rfl) ?_
  intro z hl h0 hD hS hN C E
  subst hl; subst h0; subst hD; subst hS
  have C : hC z RX11 cX11_publicOf := C
  have hZ := E.2.2.2.1
  show hX z 0 0 (T, I, L, R, A) [(0, .ref (A 63)), (1, .ref (A a)), (2, .int (nI sp)), (3, .ref (A u)), (4, .int (nI w))] 0 []
  refine x_aload_n C dX11_publicOf_0 0 rfl rfl ?_
  refine x_getrN C fl_X11_119 mO.1 rfl (mO.2.2 13 _ rfl).1 dX11_publicOf_1 ?_
  refine x_iconst (v := nI 0) C dX11_publicOf_4 (by decide +kernel) ?_
  refine x_bipush (v := nI 9) C dX11_publicOf_5 (by decide +kernel) ?_
  refine x_iastN C (mO.2.2 13 _ rfl).2.1 (mO.2.2 13 _ rfl).2.2 (by omega) (by omega) dX11_publicOf_7 (fun I1 eI1 => ?_)
  have hb9 : ∀ j, j < 32 → I1 13 (0 + j) = nI (b9 j) ∧ b9 j < 256 := fun j hj => by
    rw [Nat.zero_add, eI1, up_eq]; unfold upd b9
    by_cases c : j = 0 <;> first | (rw [if_pos c, if_pos c]; exact ⟨rfl, by decide⟩) | (rw [if_neg c, if_neg c]; exact ⟨h13 j (by omega) hj, by decide⟩)
  refine x_aload_n C dX11_publicOf_8 0 rfl rfl ?_
  refine x_aload_n C dX11_publicOf_9 1 rfl rfl ?_
  refine x_iload_n C dX11_publicOf_10 2 rfl rfl ?_
  refine x_aload_n C dX11_publicOf_11 0 rfl rfl ?_
  refine x_getrN C fl_X11_119 mO.1 rfl (mO.2.2 13 _ rfl).1 dX11_publicOf_12 ?_
  refine x_iconst (v := nI 0) C dX11_publicOf_15 (by decide +kernel) ?_
  refine x_aload_n C dX11_publicOf_16 3 rfl rfl ?_
  refine x_iload C dX11_publicOf_17 4 rfl ?_
  refine x_callV C (ok_X11_dh mO a na sp 13 32 0 u nu w b9 hTa hna hsp ha (mO.2.2 13 _ rfl).2.1 (by decide) (by decide) (by decide) hTu hu0 hnu hw hu.1 hb9) mv_X11_dh ml_X11_335 mO.1 rfl rfl rfl (Nat.le_of_ble_eq_true rfl) (hrm (rm := { frames := 0, cells := 0, slots := 0, locals := 0 }) hZ ⟨Nat.le_of_ble_eq_true rfl, Nat.le_of_ble_eq_true rfl⟩) (hcs hZ ⟨Nat.le_of_ble_eq_true rfl, Nat.le_of_ble_eq_true rfl⟩) dX11_publicOf_19 (fun v G' hp => ?_)
  obtain ⟨rfl, J, L2, rfl, i1, g1⟩ := hp
  show hX z 0 0 (T, J, L2, R, A) [(0, .ref (A 63)), (1, .ref (A a)), (2, .int (nI sp)), (3, .ref (A u)), (4, .int (nI w))] 22 []
  exact x_vret C E (Nat.le_of_ble_eq_true rfl) (Nat.le_of_ble_eq_true rfl) dX11_publicOf_22 (⟨rfl, J, L2, rfl, by rw [i1, eI1, up_ne _ _ hu.2, up_ne _ _ ha2]; rfl, fun j h1 h2 => by rw [g1 13 (by simp; omega), eI1, up_eq]; unfold upd; rw [if_neg (by omega)]; exact h13 j h1 h2, by rw [eI1] at g1; exact ((fx.rf (S := [12, 13, u])).up (by simp)).tr g1 (by intro q hq; simp at hq ⊢; omega)⟩)

