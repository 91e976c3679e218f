theorem hM.imp {l : Launch} {a0 : Nat} {D : va_G} {sa : Nat → Nat} {y : MethodName} {cc : ByteArray} {nL : Nat} {ret : Option FieldType} {rm : Room} {av : List Value} {G : hG} {post post' : Option Value → hG → Prop} (h : hM l a0 D sa y cc nL ret rm av G post) (k : ∀ v G', post v G' → post' v G') : hM l a0 D sa y cc nL ret rm av G post' := by
  intro p e h1 h2 h3 s m args below h4 h5 h6 h7
  obtain ⟨n, oc, w, r, en, ⟨⟨v, G', e1, e2, e3⟩, e4⟩, e5⟩ := h p e h1 h2 h3 s m args below h4 h5 h6 h7
  exact ⟨n, oc, w, r, en, ⟨⟨v, G', e1, k v G' e2, e3⟩, e4⟩, e5⟩
/-! ===== the model's numbers by their values ===== -/
def lev (n : Nat) (f : Nat → Int) : Prop := match n with
  | 0 => True
  | 1 => mW f
  | _ => mN f
theorem mN.w {f : Nat → Int} (h : mN f) {i : Nat} (hi : i < 16) : -38 ≤ f i ∧ f i ≤ 65573 := by
  have := h i hi; by_cases e : i = 0
  · rw [if_pos e, if_pos e] at this; exact this
  · rw [if_neg e, if_neg e] at this; omega
theorem lev.w {n : Nat} {f : Nat → Int} (h : lev n f) (hn : 1 ≤ n) : mW f := by
  match n, h, hn with
  | 1, h, _ => exact h
  | n + 2, h, _ => intro i hi; have := mN.w h hi; omega
theorem lev.sub {n m : Nat} {f : Nat → Int} (h : lev n f) (hn : m ≤ n) : lev m f := by
  match m, hn with
  | 0, _ => exact trivial
  | 1, hn => exact h.w hn
  | m + 2, hn => match n, h, hn with
    | n + 2, h, _ => exact h
def gN (L : Nat → Nat → Int64) (V : Nat → Int) (S : Nat → Nat) : Prop := ∃ F, gB L F ∧ ∀ o, o < 10 → mv (F o) = V o ∧ lev (S o) (F o)
theorem gN.sub {L : Nat → Nat → Int64} {V : Nat → Int} {S S' : Nat → Nat} (h : gN L V S) (k : ∀ o, o < 10 → S' o ≤ S o) : gN L V S' := by
  obtain ⟨F, h1, h2⟩ := h
  exact ⟨F, h1, fun o ho => ⟨(h2 o ho).1, (h2 o ho).2.sub (k o ho)⟩⟩
theorem gN.set {L' : Nat → Nat → Int64} {F : Nat → Nat → Int} {V : Nat → Int} {S : Nat → Nat} (h : ∀ o, o < 10 → mv (F o) = V o ∧ lev (S o) (F o)) {o : Nat} {f : Nat → Int} {v : Int} {n : Nat} (hF : gB L' (va_up F o f)) (hv : mv f = v) (hl : lev n f) : gN L' (va_up V o v) (va_up S o n) := by
  refine ⟨_, hF, fun p hp => ?_⟩
  by_cases c : p = o
  · subst c; rw [up_eq, up_eq, up_eq]; exact ⟨hv, hl⟩
  · rw [up_ne _ _ c, up_ne _ _ c, up_ne _ _ c]; exact h p hp
theorem mv_cg {f g : Nat → Int} (h : ∀ i, i < 16 → f i = g i) : mv f = mv g := by unfold mv; rw [sg_cg 16 h]
theorem mv_add (f g : Nat → Int) : mv (fun i => f i + g i) = (mv f + mv g) % P5 := by unfold mv; rw [sg_add, ← Int.add_emod]
theorem mv_sub (f g : Nat → Int) : mv (fun i => f i - g i) = (mv f - mv g) % P5 := by unfold mv; rw [sg_sub, ← Int.sub_emod]
theorem if16 {f g : Nat → Int} : ∀ i, i < 16 → (if i < 16 then f i else g i) = f i := fun i hi => if_pos hi
theorem gn_plus {l : Launch} {a0 : Nat} {D : va_G} {sa : Nat → Nat} {T : Nat → Option hKd} {I : Nat → Nat → Int32} {L : Nat → Nat → Int64} {R : Nat → Nat → Option Nat} {A : Nat → Nat} (mO : isM T R A a0) (o a b : Nat) (ho : o < 10) (ha : a < 10) (hb : b < 10) {V : Nat → Int} {S : Nat → Nat} (hG : gN L V S) (ha2 : 2 ≤ S a) (hb2 : 2 ≤ S b) : hM l a0 D sa yX11_plus cX11_plus 5 none { frames := 0, cells := 0, slots := 0, locals := 0 } [.ref (A 63), .int (nI o), .int (nI a), .int (nI b)] (T, I, L, R, A) (fun r G' => r = none ∧ ∃ L', G' = (T, I, L', R, A) ∧ gN L' (va_up V o ((V a + V b) % P5)) (va_up S o 1)) := by
  obtain ⟨F, hF, hV⟩ := hG
  refine (ok_X11_plus mO o a b ho ha hb F hF).imp ?_
  rintro v G' ⟨rfl, L', rfl, h1, _⟩
  refine ⟨rfl, L', rfl, gN.set hV h1 ?_ ?_⟩
  · rw [mv_cg if16, mv_add, (hV a ha).1, (hV b hb).1]
  · intro i hi
    have h2 := mN.w (lev.sub (m := 2) (hV a ha).2 ha2) hi
    have h3 := mN.w (lev.sub (m := 2) (hV b hb).2 hb2) hi
    show _ ≤ (if i < 16 then F a i + F b i else F o i) ∧ (if i < 16 then F a i + F b i else F o i) ≤ _
    rw [if_pos hi]; omega
theorem gn_minus {l : Launch} {a0 : Nat} {D : va_G} {sa : Nat → Nat} {T : Nat → Option hKd} {I : Nat → Nat → Int32} {L : Nat → Nat → Int64} {R : Nat → Nat → Option Nat} {A : Nat → Nat} (mO : isM T R A a0) (o a b : Nat) (ho : o < 10) (ha : a < 10) (hb : b < 10) {V : Nat → Int} {S : Nat → Nat} (hG : gN L V S) (ha2 : 2 ≤ S a) (hb2 : 2 ≤ S b) : hM l a0 D sa yX11_minus cX11_minus 5 none { frames := 0, cells := 0, slots := 0, locals := 0 } [.ref (A 63), .int (nI o), .int (nI a), .int (nI b)] (T, I, L, R, A) (fun r G' => r = none ∧ ∃ L', G' = (T, I, L', R, A) ∧ gN L' (va_up V o ((V a - V b) % P5)) (va_up S o 1)) := by
  obtain ⟨F, hF, hV⟩ := hG
  refine (ok_X11_minus mO o a b ho ha hb F hF).imp ?_
  rintro v G' ⟨rfl, L', rfl, h1, _⟩
  refine ⟨rfl, L', rfl, gN.set hV h1 ?_ ?_⟩
  · rw [mv_cg if16, mv_sub, (hV a ha).1, (hV b hb).1]
  · intro i hi
    have h2 := mN.w (lev.sub (m := 2) (hV a ha).2 ha2) hi
    have h3 := mN.w (lev.sub (m := 2) (hV b hb).2 hb2) hi
    show _ ≤ (if i < 16 then F a i - F b i else F o i) ∧ (if i < 16 then F a i - F b i else F o i) ≤ _
    rw [if_pos hi]; omega
theorem gn_times {l : Launch} {a0 : Nat} {D : va_G} {sa : Nat → Nat} {T : Nat → Option hKd} {I : Nat → Nat → Int32} {L : Nat → Nat → Int64} {R : Nat → Nat → Option Nat} {A : Nat → Nat} (mO : isM T R A a0) (o a b : Nat) (ho : o < 10) (ha : a < 10) (hb : b < 10) {V : Nat → Int} {S : Nat → Nat} (hG : gN L V S) (ha2 : 1 ≤ S a) (hb2 : 1 ≤ S b) : hM l a0 D sa yX11_times cX11_times 6 none { frames := 1, cells := 0, slots := 0, locals := 24 } [.ref (A 63), .int (nI o), .int (nI a), .int (nI b)] (T, I, L, R, A) (fun r G' => r = none ∧ ∃ L', G' = (T, I, L', R, A) ∧ gN L' (va_up V o (V a * V b % P5)) (va_up S o 2)) := by
  obtain ⟨F, hF, hV⟩ := hG
  have hA := (hV a ha).2.w ha2
  have hB := (hV b hb).2.w hb2
  refine (ok_X11_times mO o a b ho ha hb F hF hA hB).imp ?_
  rintro v G' ⟨rfl, L', rfl, h1, _⟩
  exact ⟨rfl, L', rfl, gN.set hV h1 (by rw [mv_tm, (hV a ha).1, (hV b hb).1]) (mTm_N _ (mQv_b hA hB))⟩
theorem gn_copies {l : Launch} {a0 : Nat} {D : va_G} {sa : Nat → Nat} {T : Nat → Option hKd} {I : Nat → Nat → Int32} {L : Nat → Nat → Int64} {R : Nat → Nat → Option Nat} {A : Nat → Nat} (mO : isM T R A a0) (o a : Nat) (ho : o < 10) (ha : a < 10) {V : Nat → Int} {S : Nat → Nat} (hG : gN L V S)  : hM l a0 D sa yX11_copies cX11_copies 4 none { frames := 0, cells := 0, slots := 0, locals := 0 } [.ref (A 63), .int (nI o), .int (nI a)] (T, I, L, R, A) (fun r G' => r = none ∧ ∃ L', G' = (T, I, L', R, A) ∧ gN L' (va_up V o (V a)) (va_up S o (S a))) := by
  obtain ⟨F, hF, hV⟩ := hG
  refine (ok_X11_copies mO o a ho ha F hF).imp ?_
  rintro v G' ⟨rfl, L', rfl, h1, _⟩
  refine ⟨rfl, L', rfl, gN.set hV h1 (by rw [mv_cg if16]; exact (hV a ha).1) ?_⟩
  have h2 := (hV a ha).2
  generalize S a = n at h2
  match n, h2 with
  | 0, _ => exact trivial
  | 1, h => exact fun i hi => by have := h i hi; simp only [if_pos hi]; exact this
  | n + 2, h => exact fun i hi => by have := h i hi; simp only [if_pos hi]; exact this
def s0 (o : Nat) : Nat := if o < 4 then 2 else if o = 6 then 2 else if o = 7 then 2 else 0
def zStM (x k x2 z2 x3 z3 : Int) : z4 :=
  let e := (x2 + z2) % P5; let a := (x2 - z2) % P5; let c := (x3 + z3) % P5; let b := (x3 - z3) % P5
  let d := e * e % P5; let f := a * a % P5
  let a1 := c * a % P5; let c1 := b * e % P5
  let e1 := (a1 + c1) % P5; let a2 := (a1 - c1) % P5
  let b1 := a2 * a2 % P5; let c2 := (d - f) % P5
  (d * f % P5, c2 * ((c2 * k % P5 + d) % P5) % P5, e1 * e1 % P5, b1 * x % P5)
theorem sqr_m (a b : Int) : (a - b) % P5 * ((a - b) % P5) % P5 = (b - a) % P5 * ((b - a) % P5) % P5 := by
  rw [← Int.mul_emod, ← Int.mul_emod]; congr 1; grind
theorem zSt_m (x x2 z2 x3 z3 : Int) : zStM x 121665 x2 z2 x3 z3 = zSt x (x2, z2, x3, z3) := by
  simp only [zStM, zSt]
  refine Prod.ext rfl (Prod.ext ?_ (Prod.ext ?_ ?_))
  · show _ * ((_ * 121665 % P5 + _) % P5) % P5 = _
    rw [Int.mul_comm _ 121665, Int.add_comm (121665 * _ % P5)]
  · show (_ + _) % P5 * ((_ + _) % P5) % P5 = (_ + _) % P5 * ((_ + _) % P5) % P5
    rw [Int.add_comm]
  · show (_ - _) % P5 * ((_ - _) % P5) % P5 * x % P5 = x * ((_ - _) % P5 * ((_ - _) % P5) % P5) % P5
    rw [sqr_m, Int.mul_comm _ x]
set_option maxHeartbeats 4000000 in
set_option maxRecDepth 100000 in
theorem ok_X11_ladderStep {l : Launch} {a0 : Nat} {D : va_G} {sa : Nat → Nat} {T : Nat → Option hKd} {I : Nat → Nat → Int32} {L : Nat → Nat → Int64} {R : Nat → Nat → Option Nat} {A : Nat → Nat} (mO : isM T R A a0) {V : Nat → Int} (h0 : gN L V s0) : hM l a0 D sa yX11_ladderStep cX11_ladderStep 1 none { frames := 2, cells := 0, slots := 0, locals := 49 } [.ref (A 63)] (T, I, L, R, A) (fun r G' => r = none ∧ ∃ L' V', G' = (T, I, L', R, A) ∧ gN L' V' s0 ∧ V' 6 = V 6 ∧ V' 7 = V 7 ∧ (V' 0, V' 2, V' 1, V' 3) = zStM (V 6) (V 7) (V 0) (V 2) (V 1) (V 3)) := by
  refine hM.of (by decide +kernel) (Nat.le_of_ble_eq_true rfl) ?_
  intro z hl h0 hD hS hN C E
  subst hl; subst h0; subst hD; subst hS
  have C : hC z RX11 cX11_ladderStep := C
  have hZ := E.2.2.2.1
  show hX z 0 0 (T, I, L, R, A) [(0, .ref (A 63))] 0 []
  refine x_aload_n C dX11_ladderStep_0 0 rfl rfl ?_
  refine x_iconst (v := nI 4) C dX11_ladderStep_1 (by decide +kernel) ?_
  refine x_iconst (v := nI 0) C dX11_ladderStep_2 (by decide +kernel) ?_
  refine x_iconst (v := nI 2) C dX11_ladderStep_3 (by decide +kernel) ?_
  refine x_callV C (gn_plus mO 4 0 2 (by decide) (by decide) (by decide) h0 (by decide) (by decide)) mv_X11_plus ml_X11_294 mO.1 rfl rfl rfl (Nat.le_of_ble_eq_true rfl) (hrm (rm := { frames := 0, cells := 0, slots := 0, locals := 0 }) hZ ⟨Nat.le_of_ble_eq_true rfl, Nat.le_of_ble_eq_true rfl⟩) (hcs hZ ⟨Nat.le_of_ble_eq_true rfl, Nat.le_of_ble_eq_true rfl⟩) dX11_ladderStep_4 (fun v G' hp => ?_)
  obtain ⟨rfl, L1, rfl, h1⟩ := hp
  show hX z 0 0 (T, I, L1, R, A) [(0, .ref (A 63))] 7 []
  refine x_aload_n C dX11_ladderStep_7 0 rfl rfl ?_
  refine x_iconst (v := nI 0) C dX11_ladderStep_8 (by decide +kernel) ?_
  refine x_iconst (v := nI 0) C dX11_ladderStep_9 (by decide +kernel) ?_
  refine x_iconst (v := nI 2) C dX11_ladderStep_10 (by decide +kernel) ?_
  refine x_callV C (gn_minus mO 0 0 2 (by decide) (by decide) (by decide) h1 (by decide) (by decide)) mv_X11_minus ml_X11_298 mO.1 rfl rfl rfl (Nat.le_of_ble_eq_true rfl) (hrm (rm := { frames := 0, cells := 0, slots := 0, locals := 0 }) hZ ⟨Nat.le_of_ble_eq_true rfl, Nat.le_of_ble_eq_true rfl⟩) (hcs hZ ⟨Nat.le_of_ble_eq_true rfl, Nat.le_of_ble_eq_true rfl⟩) dX11_ladderStep_11 (fun v G' hp => ?_)
  obtain ⟨rfl, L2, rfl, h2⟩ := hp
  show hX z 0 0 (T, I, L2, R, A) [(0, .ref (A 63))] 14 []
  refine x_aload_n C dX11_ladderStep_14 0 rfl rfl ?_
  refine x_iconst (v := nI 2) C dX11_ladderStep_15 (by decide +kernel) ?_
  refine x_iconst (v := nI 1) C dX11_ladderStep_16 (by decide +kernel) ?_
  refine x_iconst (v := nI 3) C dX11_ladderStep_17 (by decide +kernel) ?_
  refine x_callV C (gn_plus mO 2 1 3 (by decide) (by decide) (by decide) h2 (by decide) (by decide)) mv_X11_plus ml_X11_294 mO.1 rfl rfl rfl (Nat.le_of_ble_eq_true rfl) (hrm (rm := { frames := 0, cells := 0, slots := 0, locals := 0 }) hZ ⟨Nat.le_of_ble_eq_true rfl, Nat.le_of_ble_eq_true rfl⟩) (hcs hZ ⟨Nat.le_of_ble_eq_true rfl, Nat.le_of_ble_eq_true rfl⟩) dX11_ladderStep_18 (fun v G' hp => ?_)
  obtain ⟨rfl, L3, rfl, h3⟩ := hp
  show hX z 0 0 (T, I, L3, R, A) [(0, .ref (A 63))] 21 []
  refine x_aload_n C dX11_ladderStep_21 0 rfl rfl ?_
  refine x_iconst (v := nI 1) C dX11_ladderStep_22 (by decide +kernel) ?_
  refine x_iconst (v := nI 1) C dX11_ladderStep_23 (by decide +kernel) ?_
  refine x_iconst (v := nI 3) C dX11_ladderStep_24 (by decide +kernel) ?_
  refine x_callV C (gn_minus mO 1 1 3 (by decide) (by decide) (by decide) h3 (by decide) (by decide)) mv_X11_minus ml_X11_298 mO.1 rfl rfl rfl (Nat.le_of_ble_eq_true rfl) (hrm (rm := { frames := 0, cells := 0, slots := 0, locals := 0 }) hZ ⟨Nat.le_of_ble_eq_true rfl, Nat.le_of_ble_eq_true rfl⟩) (hcs hZ ⟨Nat.le_of_ble_eq_true rfl, Nat.le_of_ble_eq_true rfl⟩) dX11_ladderStep_25 (fun v G' hp => ?_)
  obtain ⟨rfl, L4, rfl, h4⟩ := hp
  show hX z 0 0 (T, I, L4, R, A) [(0, .ref (A 63))] 28 []
  refine x_aload_n C dX11_ladderStep_28 0 rfl rfl ?_
  refine x_iconst (v := nI 3) C dX11_ladderStep_29 (by decide +kernel) ?_
  refine x_iconst (v := nI 4) C dX11_ladderStep_30 (by decide +kernel) ?_
  refine x_iconst (v := nI 4) C dX11_ladderStep_31 (by decide +kernel) ?_
  refine x_callV C (gn_times mO 3 4 4 (by decide) (by decide) (by decide) h4 (by decide) (by decide)) mv_X11_times ml_X11_301 mO.1 rfl rfl rfl (Nat.le_of_ble_eq_true rfl) (hrm (rm := { frames := 0, cells := 0, slots := 0, locals := 0 }) hZ ⟨Nat.le_of_ble_eq_true rfl, Nat.le_of_ble_eq_true rfl⟩) (hcs hZ ⟨Nat.le_of_ble_eq_true rfl, Nat.le_of_ble_eq_true rfl⟩) dX11_ladderStep_32 (fun v G' hp => ?_)
  obtain ⟨rfl, L5, rfl, h5⟩ := hp
  show hX z 0 0 (T, I, L5, R, A) [(0, .ref (A 63))] 35 []
  refine x_aload_n C dX11_ladderStep_35 0 rfl rfl ?_
  refine x_iconst (v := nI 5) C dX11_ladderStep_36 (by decide +kernel) ?_
  refine x_iconst (v := nI 0) C dX11_ladderStep_37 (by decide +kernel) ?_
  refine x_iconst (v := nI 0) C dX11_ladderStep_38 (by decide +kernel) ?_
  refine x_callV C (gn_times mO 5 0 0 (by decide) (by decide) (by decide) h5 (by decide) (by decide)) mv_X11_times ml_X11_301 mO.1 rfl rfl rfl (Nat.le_of_ble_eq_true rfl) (hrm (rm := { frames := 0, cells := 0, slots := 0, locals := 0 }) hZ ⟨Nat.le_of_ble_eq_true rfl, Nat.le_of_ble_eq_true rfl⟩) (hcs hZ ⟨Nat.le_of_ble_eq_true rfl, Nat.le_of_ble_eq_true rfl⟩) dX11_ladderStep_39 (fun v G' hp => ?_)
  obtain ⟨rfl, L6, rfl, h6⟩ := hp
  show hX z 0 0 (T, I, L6, R, A) [(0, .ref (A 63))] 42 []
  refine x_aload_n C dX11_ladderStep_42 0 rfl rfl ?_
  refine x_iconst (v := nI 0) C dX11_ladderStep_43 (by decide +kernel) ?_
  refine x_iconst (v := nI 2) C dX11_ladderStep_44 (by decide +kernel) ?_
  refine x_iconst (v := nI 0) C dX11_ladderStep_45 (by decide +kernel) ?_
  refine x_callV C (gn_times mO 0 2 0 (by decide) (by decide) (by decide) h6 (by decide) (by decide)) mv_X11_times ml_X11_301 mO.1 rfl rfl rfl (Nat.le_of_ble_eq_true rfl) (hrm (rm := { frames := 0, cells := 0, slots := 0, locals := 0 }) hZ ⟨Nat.le_of_ble_eq_true rfl, Nat.le_of_ble_eq_true rfl⟩) (hcs hZ ⟨Nat.le_of_ble_eq_true rfl, Nat.le_of_ble_eq_true rfl⟩) dX11_ladderStep_46 (fun v G' hp => ?_)
  obtain ⟨rfl, L7, rfl, h7⟩ := hp
  show hX z 0 0 (T, I, L7, R, A) [(0, .ref (A 63))] 49 []
  refine x_aload_n C dX11_ladderStep_49 0 rfl rfl ?_
  refine x_iconst (v := nI 2) C dX11_ladderStep_50 (by decide +kernel) ?_
  refine x_iconst (v := nI 1) C dX11_ladderStep_51 (by decide +kernel) ?_
  refine x_iconst (v := nI 4) C dX11_ladderStep_52 (by decide +kernel) ?_
  refine x_callV C (gn_times mO 2 1 4 (by decide) (by decide) (by decide) h7 (by decide) (by decide)) mv_X11_times ml_X11_301 mO.1 rfl rfl rfl (Nat.le_of_ble_eq_true rfl) (hrm (rm := { frames := 0, cells := 0, slots := 0, locals := 0 }) hZ ⟨Nat.le_of_ble_eq_true rfl, Nat.le_of_ble_eq_true rfl⟩) (hcs hZ ⟨Nat.le_of_ble_eq_true rfl, Nat.le_of_ble_eq_true rfl⟩) dX11_ladderStep_53 (fun v G' hp => ?_)
  obtain ⟨rfl, L8, rfl, h8⟩ := hp
  show hX z 0 0 (T, I, L8, R, A) [(0, .ref (A 63))] 56 []
  refine x_aload_n C dX11_ladderStep_56 0 rfl rfl ?_
  refine x_iconst (v := nI 4) C dX11_ladderStep_57 (by decide +kernel) ?_
  refine x_iconst (v := nI 0) C dX11_ladderStep_58 (by decide +kernel) ?_
  refine x_iconst (v := nI 2) C dX11_ladderStep_59 (by decide +kernel) ?_
  refine x_callV C (gn_plus mO 4 0 2 (by decide) (by decide) (by decide) h8 (by decide) (by decide)) mv_X11_plus ml_X11_294 mO.1 rfl rfl rfl (Nat.le_of_ble_eq_true rfl) (hrm (rm := { frames := 0, cells := 0, slots := 0, locals := 0 }) hZ ⟨Nat.le_of_ble_eq_true rfl, Nat.le_of_ble_eq_true rfl⟩) (hcs hZ ⟨Nat.le_of_ble_eq_true rfl, Nat.le_of_ble_eq_true rfl⟩) dX11_ladderStep_60 (fun v G' hp => ?_)
  obtain ⟨rfl, L9, rfl, h9⟩ := hp
  show hX z 0 0 (T, I, L9, R, A) [(0, .ref (A 63))] 63 []
  refine x_aload_n C dX11_ladderStep_63 0 rfl rfl ?_
  refine x_iconst (v := nI 0) C dX11_ladderStep_64 (by decide +kernel) ?_
  refine x_iconst (v := nI 0) C dX11_ladderStep_65 (by decide +kernel) ?_
  refine x_iconst (v := nI 2) C dX11_ladderStep_66 (by decide +kernel) ?_
  refine x_callV C (gn_minus mO 0 0 2 (by decide) (by decide) (by decide) h9 (by decide) (by decide)) mv_X11_minus ml_X11_298 mO.1 rfl rfl rfl (Nat.le_of_ble_eq_true rfl) (hrm (rm := { frames := 0, cells := 0, slots := 0, locals := 0 }) hZ ⟨Nat.le_of_ble_eq_true rfl, Nat.le_of_ble_eq_true rfl⟩) (hcs hZ ⟨Nat.le_of_ble_eq_true rfl, Nat.le_of_ble_eq_true rfl⟩) dX11_ladderStep_67 (fun v G' hp => ?_)
  obtain ⟨rfl, L10, rfl, h10⟩ := hp
  show hX z 0 0 (T, I, L10, R, A) [(0, .ref (A 63))] 70 []
  refine x_aload_n C dX11_ladderStep_70 0 rfl rfl ?_
  refine x_iconst (v := nI 1) C dX11_ladderStep_71 (by decide +kernel) ?_
  refine x_iconst (v := nI 0) C dX11_ladderStep_72 (by decide +kernel) ?_
  refine x_iconst (v := nI 0) C dX11_ladderStep_73 (by decide +kernel) ?_
  refine x_callV C (gn_times mO 1 0 0 (by decide) (by decide) (by decide) h10 (by decide) (by decide)) mv_X11_times ml_X11_301 mO.1 rfl rfl rfl (Nat.le_of_ble_eq_true rfl) (hrm (rm := { frames := 0, cells := 0, slots := 0, locals := 0 }) hZ ⟨Nat.le_of_ble_eq_true rfl, Nat.le_of_ble_eq_true rfl⟩) (hcs hZ ⟨Nat.le_of_ble_eq_true rfl, Nat.le_of_ble_eq_true rfl⟩) dX11_ladderStep_74 (fun v G' hp => ?_)
  obtain ⟨rfl, L11, rfl, h11⟩ := hp
  show hX z 0 0 (T, I, L11, R, A) [(0, .ref (A 63))] 77 []
  refine x_aload_n C dX11_ladderStep_77 0 rfl rfl ?_
  refine x_iconst (v := nI 2) C dX11_ladderStep_78 (by decide +kernel) ?_
  refine x_iconst (v := nI 3) C dX11_ladderStep_79 (by decide +kernel) ?_
  refine x_iconst (v := nI 5) C dX11_ladderStep_80 (by decide +kernel) ?_
  refine x_callV C (gn_minus mO 2 3 5 (by decide) (by decide) (by decide) h11 (by decide) (by decide)) mv_X11_minus ml_X11_298 mO.1 rfl rfl rfl (Nat.le_of_ble_eq_true rfl) (hrm (rm := { frames := 0, cells := 0, slots := 0, locals := 0 }) hZ ⟨Nat.le_of_ble_eq_true rfl, Nat.le_of_ble_eq_true rfl⟩) (hcs hZ ⟨Nat.le_of_ble_eq_true rfl, Nat.le_of_ble_eq_true rfl⟩) dX11_ladderStep_81 (fun v G' hp => ?_)
  obtain ⟨rfl, L12, rfl, h12⟩ := hp
  show hX z 0 0 (T, I, L12, R, A) [(0, .ref (A 63))] 84 []
  refine x_aload_n C dX11_ladderStep_84 0 rfl rfl ?_
  refine x_iconst (v := nI 0) C dX11_ladderStep_85 (by decide +kernel) ?_
  refine x_iconst (v := nI 2) C dX11_ladderStep_86 (by decide +kernel) ?_
  refine x_bipush (v := nI 7) C dX11_ladderStep_87 (by decide +kernel) ?_
  refine x_callV C (gn_times mO 0 2 7 (by decide) (by decide) (by decide) h12 (by decide) (by decide)) mv_X11_times ml_X11_301 mO.1 rfl rfl rfl (Nat.le_of_ble_eq_true rfl) (hrm (rm := { frames := 0, cells := 0, slots := 0, locals := 0 }) hZ ⟨Nat.le_of_ble_eq_true rfl, Nat.le_of_ble_eq_true rfl⟩) (hcs hZ ⟨Nat.le_of_ble_eq_true rfl, Nat.le_of_ble_eq_true rfl⟩) dX11_ladderStep_89 (fun v G' hp => ?_)
  obtain ⟨rfl, L13, rfl, h13⟩ := hp
  show hX z 0 0 (T, I, L13, R, A) [(0, .ref (A 63))] 92 []
  refine x_aload_n C dX11_ladderStep_92 0 rfl rfl ?_
  refine x_iconst (v := nI 0) C dX11_ladderStep_93 (by decide +kernel) ?_
  refine x_iconst (v := nI 0) C dX11_ladderStep_94 (by decide +kernel) ?_
  refine x_iconst (v := nI 3) C dX11_ladderStep_95 (by decide +kernel) ?_
  refine x_callV C (gn_plus mO 0 0 3 (by decide) (by decide) (by decide) h13 (by decide) (by decide)) mv_X11_plus ml_X11_294 mO.1 rfl rfl rfl (Nat.le_of_ble_eq_true rfl) (hrm (rm := { frames := 0, cells := 0, slots := 0, locals := 0 }) hZ ⟨Nat.le_of_ble_eq_true rfl, Nat.le_of_ble_eq_true rfl⟩) (hcs hZ ⟨Nat.le_of_ble_eq_true rfl, Nat.le_of_ble_eq_true rfl⟩) dX11_ladderStep_96 (fun v G' hp => ?_)
  obtain ⟨rfl, L14, rfl, h14⟩ := hp
  show hX z 0 0 (T, I, L14, R, A) [(0, .ref (A 63))] 99 []
  refine x_aload_n C dX11_ladderStep_99 0 rfl rfl ?_
  refine x_iconst (v := nI 2) C dX11_ladderStep_100 (by decide +kernel) ?_
  refine x_iconst (v := nI 2) C dX11_ladderStep_101 (by decide +kernel) ?_
  refine x_iconst (v := nI 0) C dX11_ladderStep_102 (by decide +kernel) ?_
  refine x_callV C (gn_times mO 2 2 0 (by decide) (by decide) (by decide) h14 (by decide) (by decide)) mv_X11_times ml_X11_301 mO.1 rfl rfl rfl (Nat.le_of_ble_eq_true rfl) (hrm (rm := { frames := 0, cells := 0, slots := 0, locals := 0 }) hZ ⟨Nat.le_of_ble_eq_true rfl, Nat.le_of_ble_eq_true rfl⟩) (hcs hZ ⟨Nat.le_of_ble_eq_true rfl, Nat.le_of_ble_eq_true rfl⟩) dX11_ladderStep_103 (fun v G' hp => ?_)
  obtain ⟨rfl, L15, rfl, h15⟩ := hp
  show hX z 0 0 (T, I, L15, R, A) [(0, .ref (A 63))] 106 []
  refine x_aload_n C dX11_ladderStep_106 0 rfl rfl ?_
  refine x_iconst (v := nI 0) C dX11_ladderStep_107 (by decide +kernel) ?_
  refine x_iconst (v := nI 3) C dX11_ladderStep_108 (by decide +kernel) ?_
  refine x_iconst (v := nI 5) C dX11_ladderStep_109 (by decide +kernel) ?_
  refine x_callV C (gn_times mO 0 3 5 (by decide) (by decide) (by decide) h15 (by decide) (by decide)) mv_X11_times ml_X11_301 mO.1 rfl rfl rfl (Nat.le_of_ble_eq_true rfl) (hrm (rm := { frames := 0, cells := 0, slots := 0, locals := 0 }) hZ ⟨Nat.le_of_ble_eq_true rfl, Nat.le_of_ble_eq_true rfl⟩) (hcs hZ ⟨Nat.le_of_ble_eq_true rfl, Nat.le_of_ble_eq_true rfl⟩) dX11_ladderStep_110 (fun v G' hp => ?_)
  obtain ⟨rfl, L16, rfl, h16⟩ := hp
  show hX z 0 0 (T, I, L16, R, A) [(0, .ref (A 63))] 113 []
  refine x_aload_n C dX11_ladderStep_113 0 rfl rfl ?_
  refine x_iconst (v := nI 3) C dX11_ladderStep_114 (by decide +kernel) ?_
  refine x_iconst (v := nI 1) C dX11_ladderStep_115 (by decide +kernel) ?_
  refine x_bipush (v := nI 6) C dX11_ladderStep_116 (by decide +kernel) ?_
  refine x_callV C (gn_times mO 3 1 6 (by decide) (by decide) (by decide) h16 (by decide) (by decide)) mv_X11_times ml_X11_301 mO.1 rfl rfl rfl (Nat.le_of_ble_eq_true rfl) (hrm (rm := { frames := 0, cells := 0, slots := 0, locals := 0 }) hZ ⟨Nat.le_of_ble_eq_true rfl, Nat.le_of_ble_eq_true rfl⟩) (hcs hZ ⟨Nat.le_of_ble_eq_true rfl, Nat.le_of_ble_eq_true rfl⟩) dX11_ladderStep_118 (fun v G' hp => ?_)
  obtain ⟨rfl, L17, rfl, h17⟩ := hp
  show hX z 0 0 (T, I, L17, R, A) [(0, .ref (A 63))] 121 []
  refine x_aload_n C dX11_ladderStep_121 0 rfl rfl ?_
  refine x_iconst (v := nI 1) C dX11_ladderStep_122 (by decide +kernel) ?_
  refine x_iconst (v := nI 4) C dX11_ladderStep_123 (by decide +kernel) ?_
  refine x_iconst (v := nI 4) C dX11_ladderStep_124 (by decide +kernel) ?_
  refine x_callV C (gn_times mO 1 4 4 (by decide) (by decide) (by decide) h17 (by decide) (by decide)) mv_X11_times ml_X11_301 mO.1 rfl rfl rfl (Nat.le_of_ble_eq_true rfl) (hrm (rm := { frames := 0, cells := 0, slots := 0, locals := 0 }) hZ ⟨Nat.le_of_ble_eq_true rfl, Nat.le_of_ble_eq_true rfl⟩) (hcs hZ ⟨Nat.le_of_ble_eq_true rfl, Nat.le_of_ble_eq_true rfl⟩) dX11_ladderStep_125 (fun v G' hp => ?_)
  obtain ⟨rfl, L18, rfl, h18⟩ := hp
  show hX z 0 0 (T, I, L18, R, A) [(0, .ref (A 63))] 128 []
  exact x_vret C E (Nat.le_of_ble_eq_true rfl) (Nat.le_of_ble_eq_true rfl) dX11_ladderStep_128 (⟨rfl, L18, _, rfl, h18.sub (by decide), rfl, rfl, rfl⟩)

def s8 : Nat → Nat := va_up s0 8 2
theorem m1_4 : ∀ m, m < 255 → 0 < m → (nI m - 1 = nI 2 ↔ m = 3) ∧ (nI m - 1 = nI 4 ↔ m = 5) := by decide +kernel
set_option maxHeartbeats 4000000 in
set_option maxRecDepth 100000 in
theorem ok_X11_invert {l : Launch} {a0 : Nat} {D : va_G} {sa : Nat → Nat} {T : Nat → Option hKd} {I : Nat → Nat → Int32} {L : Nat → Nat → Int64} {R : Nat → Nat → Option Nat} {A : Nat → Nat} (mO : isM T R A a0) {V : Nat → Int} (hG0 : gN L V s0) : hM l a0 D sa yX11_invert cX11_invert 2 none { frames := 2, cells := 0, slots := 0, locals := 49 } [.ref (A 63)] (T, I, L, R, A) (fun r G' => r = none ∧ ∃ L', G' = (T, I, L', R, A) ∧ gN L' (va_up V 8 (zPw (V 2) 254)) s8) := by
  refine hM.of (by decide +kernel) (Nat.le_of_ble_eq_true rfl) ?_
  intro z hl h0 hD hS hN C E
  subst hl; subst h0; subst hD; subst hS
  have C : hC z RX11 cX11_invert := C
  have hZ := E.2.2.2.1
  show hX z 0 0 (T, I, L, R, A) [(0, .ref (A 63))] 0 []
  refine x_aload_n C dX11_invert_0 0 rfl rfl ?_
  refine x_bipush (v := nI 8) C dX11_invert_1 (by decide +kernel) ?_
  refine x_iconst (v := nI 2) C dX11_invert_3 (by decide +kernel) ?_
  refine x_callV C (gn_copies mO 8 2 (by decide) (by decide) hG0) mv_X11_copies ml_X11_304 mO.1 rfl rfl rfl (Nat.le_of_ble_eq_true rfl) (hrm (rm := { frames := 0, cells := 0, slots := 0, locals := 0 }) hZ ⟨Nat.le_of_ble_eq_true rfl, Nat.le_of_ble_eq_true rfl⟩) (hcs hZ ⟨Nat.le_of_ble_eq_true rfl, Nat.le_of_ble_eq_true rfl⟩) dX11_invert_4 (fun v G' hp => ?_)
  obtain ⟨rfl, L1, rfl, h1⟩ := hp
  show hX z 0 0 (T, I, L1, R, A) [(0, .ref (A 63))] 7 []
  refine x_sipush (v := nI 253) C dX11_invert_7 (by decide +kernel) ?_
  refine x_istore_n (lv' := [(1, .int (nI 253)), (0, .ref (A 63))]) C dX11_invert_10 rfl (Nat.lt_of_lt_of_eq (by decide) hN.symm) rfl ?_
  have L11 : ∀ (fuel_ : Nat) (m : Nat) (x : Int32) (K : Nat → Nat → Int64), m < fuel_ → (m ≤ 254) → (x = nI m - 1) → (gN K (va_up V 8 (zPw (V 2) (254 - m))) s8) → hX z 0 0 (T, I, K, R, A) [(1, .int x), (0, .ref (A 63))] 11 [] := by
    intro fuel_
    induction fuel_ with
    | zero => intro m x K hmz; exact absurd hmz (Nat.not_lt_zero _)
    | succ fuel_ ih11 =>
      intro m x K hmz hm5 hx hK
      refine x_iload_n C dX11_invert_11 0 rfl rfl ?_
      refine x_if_lt (tgt := 50) C dX11_invert_12 (by decide) (fun c12 => ?_) (fun c12 => ?_)
      · have hm0 : m = 0 := (m1_lt m (by omega)).mp (by rw [← hx]; exact c12)
        subst hm0
        exact x_vret C E (Nat.le_of_ble_eq_true rfl) (Nat.le_of_ble_eq_true rfl) dX11_invert_50 (⟨rfl, K, rfl, hK⟩)
      · have hm1 : 0 < m := by
          have : ¬ m = 0 := fun e => c12 (by rw [hx]; exact (m1_lt m (by omega)).mpr e)
          omega
        have hx2 : x = nI (m - 1) := by rw [hx]; exact m1_eq hm1
        have hm4 := m1_4 m (by omega) hm1
        rw [← hx] at hm4
        refine x_aload_n C dX11_invert_15 1 rfl rfl ?_
        refine x_bipush (v := nI 8) C dX11_invert_16 (by decide +kernel) ?_
        refine x_bipush (v := nI 8) C dX11_invert_18 (by decide +kernel) ?_
        refine x_bipush (v := nI 8) C dX11_invert_20 (by decide +kernel) ?_
        refine x_callV C (gn_times mO 8 8 8 (by decide) (by decide) (by decide) hK (by decide) (by decide)) mv_X11_times ml_X11_301 mO.1 rfl rfl rfl (Nat.le_of_ble_eq_true rfl) (hrm (rm := { frames := 0, cells := 0, slots := 0, locals := 0 }) hZ ⟨Nat.le_of_ble_eq_true rfl, Nat.le_of_ble_eq_true rfl⟩) (hcs hZ ⟨Nat.le_of_ble_eq_true rfl, Nat.le_of_ble_eq_true rfl⟩) dX11_invert_22 (fun v G' hp => ?_)
        obtain ⟨rfl, K2, rfl, hK2⟩ := hp
        show hX z 0 0 (T, I, K2, R, A) [(1, .int x), (0, .ref (A 63))] 25 []
        refine x_iload_n C dX11_invert_25 0 rfl rfl ?_
        refine x_iconst (v := nI 2) C dX11_invert_26 (by decide +kernel) ?_
        refine x_icmp_eq (tgt := 44) C dX11_invert_27 (by decide) (fun c27 => ?_) (fun c27 => ?_)
        · have hm3 : m = 3 := hm4.1.mp c27
          refine x_iinc (v := x + (-1)) (lv' := [(1, .int (x + (-1))), (0, .ref (A 63))]) C dX11_invert_44 0 rfl (by rfl) (Nat.lt_of_lt_of_eq (by decide) hN.symm) rfl ?_
          refine x_goto (tgt := 11) C dX11_invert_47 (by decide) ?_
          refine x_sub (lv' := _) [0, 1] rfl ?_
          exact ih11 (m - 1) (x + (-1)) K2 (by omega) (by omega) (by rw [hx2, m1_dec]) (by rw [show 254 - (m - 1) = (254 - m) + 1 by omega]; simp only [zPw]; rw [if_pos (by omega)]; rw [up_up] at hK2; exact (gN.sub hK2 (by decide)))
        · have hm3 : ¬ m = 3 := fun e => c27 (hm4.1.mpr e)
          refine x_iload_n C dX11_invert_30 0 rfl rfl ?_
          refine x_iconst (v := nI 4) C dX11_invert_31 (by decide +kernel) ?_
          refine x_icmp_eq (tgt := 44) C dX11_invert_32 (by decide) (fun c32 => ?_) (fun c32 => ?_)
          · have hm5' : m = 5 := hm4.2.mp c32
            refine x_iinc (v := x + (-1)) (lv' := [(1, .int (x + (-1))), (0, .ref (A 63))]) C dX11_invert_44 0 rfl (by rfl) (Nat.lt_of_lt_of_eq (by decide) hN.symm) rfl ?_
            refine x_goto (tgt := 11) C dX11_invert_47 (by decide) ?_
            refine x_sub (lv' := _) [0, 1] rfl ?_
            exact ih11 (m - 1) (x + (-1)) K2 (by omega) (by omega) (by rw [hx2, m1_dec]) (by rw [show 254 - (m - 1) = (254 - m) + 1 by omega]; simp only [zPw]; rw [if_pos (by omega)]; rw [up_up] at hK2; exact (gN.sub hK2 (by decide)))
          · have hm5' : ¬ m = 5 := fun e => c32 (hm4.2.mpr e)
            refine x_aload_n C dX11_invert_35 1 rfl rfl ?_
            refine x_bipush (v := nI 8) C dX11_invert_36 (by decide +kernel) ?_
            refine x_bipush (v := nI 8) C dX11_invert_38 (by decide +kernel) ?_
            refine x_iconst (v := nI 2) C dX11_invert_40 (by decide +kernel) ?_
            refine x_callV C (gn_times mO 8 8 2 (by decide) (by decide) (by decide) hK2 (by decide) (by decide)) mv_X11_times ml_X11_301 mO.1 rfl rfl rfl (Nat.le_of_ble_eq_true rfl) (hrm (rm := { frames := 0, cells := 0, slots := 0, locals := 0 }) hZ ⟨Nat.le_of_ble_eq_true rfl, Nat.le_of_ble_eq_true rfl⟩) (hcs hZ ⟨Nat.le_of_ble_eq_true rfl, Nat.le_of_ble_eq_true rfl⟩) dX11_invert_41 (fun v G' hp => ?_)
            obtain ⟨rfl, K3, rfl, hK3⟩ := hp
            show hX z 0 0 (T, I, K3, R, A) [(1, .int x), (0, .ref (A 63))] 44 []
            refine x_iinc (v := x + (-1)) (lv' := [(1, .int (x + (-1))), (0, .ref (A 63))]) C dX11_invert_44 0 rfl (by rfl) (Nat.lt_of_lt_of_eq (by decide) hN.symm) rfl ?_
            refine x_goto (tgt := 11) C dX11_invert_47 (by decide) ?_
            refine x_sub (lv' := _) [0, 1] rfl ?_
            exact ih11 (m - 1) (x + (-1)) K3 (by omega) (by omega) (by rw [hx2, m1_dec]) (by rw [show 254 - (m - 1) = (254 - m) + 1 by omega]; simp only [zPw]; rw [if_neg (by omega)]; rw [up_up, up_up] at hK3; exact (gN.sub hK3 (by decide)))
  refine x_sub (lv' := _) [0, 1] rfl ?_
  exact L11 _ 254 (nI 253) L1 (Nat.lt_succ_self _) (by omega) (by decide +kernel) h1

