/-! ===== the tagger ===== -/
def fy (S : List Nat) (L K : Nat → Nat → Int64) : Prop := ∀ q, q ∉ S → K q = L q
theorem fy.rf {S : List Nat} {L : Nat → Nat → Int64} : fy S L L := fun _ _ => rfl
theorem fy.tr {S U : List Nat} {I J K : Nat → Nat → Int64} (h : fy S I J) (k : fy U J K) (hs : ∀ q, q ∈ U → q ∈ S) : fy S I K := fun p h1 => (k p (fun e => h1 (hs p e))).trans (h p h1)
theorem fy.up {S : List Nat} {I J K : Nat → Nat → Int64} {q : Nat} {f : Nat → Int64} (h : fy S I J) (e : K = va_up J q f) (hq : q ∈ S) : fy S I K := fun p h1 => by rw [e, up_ne _ _ (fun e : p = q => h1 (by rw [e]; exact hq))]; exact h p h1
def t5 (K : Nat → Nat → Int64) (a : Nat) (F : Nat → Int) : Prop := ∀ i, i < 5 → K a i = lZ (F i)
theorem t5.w {K L1 : Nat → Nat → Int64} {a k : Nat} {F : Nat → Int} {v : Int} (h : t5 K a F) (e : L1 = va_up K a (vp_updL (K a) k (lZ v))) : t5 L1 a (va_up F k v) := fun i hi => by
  rw [e, up_eq]; unfold vp_updL va_up
  by_cases c : i = k
  · rw [if_pos c, if_pos c]
  · rw [if_neg c, if_neg c, h i hi]
theorem t5.o {K L1 : Nat → Nat → Int64} {a b : Nat} {F : Nat → Int} {g : Nat → Int64} (h : t5 K a F) (e : L1 = va_up K b g) (n : a ≠ b) : t5 L1 a F := fun i hi => by rw [e, up_ne _ _ n]; exact h i hi
theorem t5.to {K : Nat → Nat → Int64} {a : Nat} {F G : Nat → Int} (h : t5 K a F) (e : ∀ i, i < 5 → F i = G i) : t5 K a G := fun i hi => by rw [h i hi, e i hi]
theorem t5.n {K : Nat → Nat → Int64} {a i : Nat} {F N : Nat → Int} (h : t5 K a (fun j => if j < i then N j else F j)) (hi : i < 5) : K a i = lZ (F i) := by
  rw [h i hi]; exact congrArg lZ (if_neg (by omega))
theorem t5.f {K L1 : Nat → Nat → Int64} {a i : Nat} {F N : Nat → Int} (h : t5 K a (fun j => if j < i then N j else F j)) (e : L1 = va_up K a (vp_updL (K a) i (lZ (N i)))) : t5 L1 a (fun j => if j < i + 1 then N j else F j) := (h.w e).to (fun j _ => by rw [fill_s N F rfl])
theorem lZ_shr26 {a : Int} (h1 : -2 ^ 63 ≤ a) (h2 : a < 2 ^ 63) : lsr (lZ a) (nI 26) = lZ (a / 67108864) := by
  have := lZ_shr h1 h2 (k := 26) (by decide); rw [show (2 : Int) ^ 26 = 67108864 from rfl] at this; exact this
theorem lZ_and26 (a : Int) : lZ a &&& lZ 67108863 = lZ (a % 67108864) := by
  have := lZ_and a (k := 26) (by decide); rw [show (2 : Int) ^ 26 - 1 = 67108863 from rfl, show (2 : Int) ^ 26 = 67108864 from rfl] at this; exact this
/-- the tagger: its factor is r, its sum stands for v -/
def tgS (L : Nat → Nat → Int64) (r v : Int) : Prop := (∃ f, t5 L 138 f ∧ tFb f ∧ sg twt f 5 = r) ∧ ∃ s, t5 L 139 s ∧ tB s ∧ sg twt s 5 % Q5 = v
theorem tRw_w1 {K L1 : Nat → Nat → Int64} {S f p : Nat → Int} {i j : Nat} (h : t5 K 140 (tRw S f i p j)) (hij : i + j < 5) (e : L1 = va_up K 140 (vp_updL (K 140) (i + j) (lZ (tRw S f i p j (i + j) + S i * f j)))) : t5 L1 140 (tRw S f i p (j + 1)) := by
  have := h.w e
  simp only [tRw]; rw [if_pos hij, Nat.mod_eq_of_lt hij]; exact this
theorem tRw_w2 {K L1 : Nat → Nat → Int64} {S f p : Nat → Int} {i j : Nat} (h : t5 K 140 (tRw S f i p j)) (hi : i < 5) (hj : j < 5) (hij : ¬ i + j < 5) (e : L1 = va_up K 140 (vp_updL (K 140) (i + j - 5) (lZ (tRw S f i p j (i + j - 5) + 5 * (S i * f j))))) : t5 L1 140 (tRw S f i p (j + 1)) := by
  have := h.w e
  simp only [tRw]; rw [if_neg hij, show (i + j) % 5 = i + j - 5 by omega]; exact this
theorem tCar_fin {P : Nat → Int} {ov : Int} (hov : ov = tOv P 5) : ∀ i, i < 5 → va_up (va_up (va_up (tG P) 0 (tG P 0 + 5 * ov)) 1 (tG P 1 + (tG P 0 + 5 * ov) / 67108864)) 0 ((tG P 0 + 5 * ov) % 67108864) i = tCar P i := by
  intro i hi; subst hov; unfold tCar va_up
  by_cases e : i = 0 <;> by_cases e1 : i = 1 <;> simp [e, e1]
/-- the bytes of a block with its one -/
def b17 (b : Nat → Nat) (e : Nat) (j : Nat) : Nat := if j < 16 then b j else e
theorem b17_f {f : Nat → Int32} {b : Nat → Nat} {e : Nat} (h : ∀ j, j < 16 → f j = nI (b j) ∧ b j < 256) (he : e < 256) : ∀ j, j < 17 → upd f 16 (nI e) j = nI (b17 b e j) ∧ b17 b e j < 256 := by
  intro j hj; unfold upd b17
  by_cases c : j = 16
  · rw [if_pos c, if_neg (by omega)]; exact ⟨rfl, he⟩
  · rw [if_neg c, if_pos (by omega)]; exact h j (by omega)
theorem tB_0 : tB (fun _ => 0) := fun _ _ => (by decide : (0 : Int) ≤ 0 ∧ (0 : Int) ≤ 67112960)
def tS (s : Nat → Int) (c : Nat → Nat) (j : Nat) : Int := s j + tF c j
theorem tS_b {s : Nat → Int} (h : tB s) (c : Nat → Nat) : ∀ i, i < 5 → 0 ≤ tS s c i ∧ tS s c i ≤ 134221824 := fun i hi => by
  have := h i hi; have := tF_b c i; unfold tS; omega
/-- the clamp -/
def clC (i : Nat) : Nat := if i % 4 = 3 then 15 else if i % 4 = 0 ∧ 0 < i then 252 else 255
def clN (k : Nat → Nat) (i : Nat) : Nat := if i % 4 = 3 then k i % 16 else if i % 4 = 0 ∧ 0 < i then k i / 4 * 4 else k i
theorem and252 : ∀ n, n < 256 → nI n &&& nI 252 = nI (n / 4 * 4) := by decide +kernel
theorem and15 : ∀ n, n < 256 → nI n &&& nI 15 = nI (n % 16) := by decide +kernel
theorem and255 : ∀ n, n < 256 → nI n &&& nI 255 = nI n := by decide +kernel
theorem cl_and {k : Nat → Nat} {i : Nat} (h : k i < 256) : nI (k i) &&& nI (clC i) = nI (clN k i) := by
  unfold clC clN; split
  · exact and15 _ h
  · split
    · exact and252 _ h
    · exact and255 _ h
theorem clN_lt {k : Nat → Nat} {i : Nat} (h : k i < 256) : clN k i < 256 := by unfold clN; split <;> (try split) <;> omega
set_option maxHeartbeats 4000000 in
set_option maxRecDepth 100000 in
theorem ok_X8_clampOf {l : Launch} {a0 : Nat} {D : va_G} {sa : Nat → Nat} {T : Nat → Option hKd} {I : Nat → Nat → Int32} {L : Nat → Nat → Int64} {R : Nat → Nat → Option Nat} {A : Nat → Nat} (i : Nat) (hi : i < 2 ^ 31) : hM l a0 D sa yX8_clampOf cX8_clampOf 1 (some .int) { frames := 0, cells := 0, slots := 0, locals := 0 } [.int (nI i)] (T, I, L, R, A) (fun r G' => r = some (.int (nI (clC i))) ∧ G' = (T, I, L, R, A)) := by
  refine hM.of (by decide +kernel) (Nat.le_of_ble_eq_true rfl) ?_
  intro z hl h0 hD hS hN C E
  subst hl; subst h0; subst hD; subst hS
  have C : hC z RX8 cX8_clampOf := C
  have hZ := E.2.2.2.1
  show hX z 0 0 (T, I, L, R, A) [(0, .int (nI i))] 0 []
  refine x_iload_n C dX8_clampOf_0 0 rfl rfl ?_
  refine x_iconst (v := nI 3) C dX8_clampOf_1 (by decide +kernel) ?_
  refine x_iandN (q := 2) C (by omega) (by omega) rfl dX8_clampOf_2 ?_
  refine x_iconst (v := nI 3) C dX8_clampOf_3 (by decide +kernel) ?_
  refine x_icmp_neN (tgt := 10) C (by omega) (by omega) dX8_clampOf_4 (by decide) (fun c4 => ?_) (fun c4 => ?_)
  · refine x_iload_n C dX8_clampOf_10 0 rfl rfl ?_
    refine x_iconst (v := nI 3) C dX8_clampOf_11 (by decide +kernel) ?_
    refine x_iandN (q := 2) C (by omega) (by omega) rfl dX8_clampOf_12 ?_
    refine x_if_neN (tgt := 26) C (by omega) dX8_clampOf_13 (by decide) (fun c13 => ?_) (fun c13 => ?_)
    · refine x_sipush (v := nI 255) C dX8_clampOf_26 (by decide +kernel) ?_
      exact x_iret C E (Nat.le_of_ble_eq_true rfl) (Nat.le_of_ble_eq_true rfl) dX8_clampOf_29 (⟨by rw [show clC i = 255 by unfold clC; rw [if_neg (by omega), if_neg (by omega)]], rfl⟩)
    · refine x_iload_n C dX8_clampOf_16 0 rfl rfl ?_
      refine x_if_leN (tgt := 26) C (by omega) dX8_clampOf_17 (by decide) (fun c17 => ?_) (fun c17 => ?_)
      · refine x_sipush (v := nI 255) C dX8_clampOf_26 (by decide +kernel) ?_
        exact x_iret C E (Nat.le_of_ble_eq_true rfl) (Nat.le_of_ble_eq_true rfl) dX8_clampOf_29 (⟨by rw [show clC i = 255 by unfold clC; rw [if_neg (by omega), if_neg (by omega)]], rfl⟩)
      · refine x_sipush (v := nI 252) C dX8_clampOf_20 (by decide +kernel) ?_
        refine x_goto (tgt := 29) C dX8_clampOf_23 (by decide) ?_
        exact x_iret C E (Nat.le_of_ble_eq_true rfl) (Nat.le_of_ble_eq_true rfl) dX8_clampOf_29 (⟨by rw [show clC i = 252 by unfold clC; rw [if_neg (by omega), if_pos (by omega)]], rfl⟩)
  · refine x_bipush (v := nI 15) C dX8_clampOf_7 (by decide +kernel) ?_
    exact x_iret C E (Nat.le_of_ble_eq_true rfl) (Nat.le_of_ble_eq_true rfl) dX8_clampOf_9 (⟨by rw [show clC i = 15 by unfold clC; rw [if_pos (by omega)]], rfl⟩)

theorem g_ap {J J1 : Nat → Int32} {i : Nat} {f : Nat → Int32} (h : ∀ j, j < i → J j = f j) (e : J1 = upd J i (f i)) : ∀ j, j < i + 1 → J1 j = f j := by
  intro j hj; rw [e]; unfold upd; by_cases c : j = i
  · rw [if_pos c, c]
  · rw [if_neg c]; exact h j (by omega)
theorem g_apL {J J1 : Nat → Int64} {i : Nat} {f : Nat → Int64} (h : ∀ j, j < i → J j = f j) (e : J1 = vp_updL J i (f i)) : ∀ j, j < i + 1 → J1 j = f j := by
  intro j hj; rw [e]; unfold vp_updL; by_cases c : j = i
  · rw [if_pos c, c]
  · rw [if_neg c]; exact h j (by omega)
theorem clV {k : Nat → Nat} (h : ∀ j, j < 16 → k j < 256) : sg twt (tF (b17 (clN k) 0)) 5 = ((bN (clN k) 16 : Nat) : Int) := by
  rw [tF_17 _ (fun j hj => by unfold b17; rw [if_pos hj]; exact clN_lt (h j hj)) (by unfold b17; rw [if_neg (by omega)]; omega)]
  rw [bN_cg (a := b17 (clN k) 0) (b := clN k) 16 (fun j hj => by unfold b17; rw [if_pos hj]), show b17 (clN k) 0 16 = 0 from rfl, Nat.zero_mul, Nat.add_zero]
set_option maxHeartbeats 4000000 in
set_option maxRecDepth 100000 in
theorem ok_X8_begin {l : Launch} {a0 : Nat} {D : va_G} {sa : Nat → Nat} {T : Nat → Option hKd} {I : Nat → Nat → Int32} {L : Nat → Nat → Int64} {R : Nat → Nat → Option Nat} {A : Nat → Nat} (xO : isX T R A a0) (hsa : ∀ k, k < 5 → sa k = A (90 + k)) (b nb : Nat) (k : Nat → Nat) (hTb : T b = some (.inl (.int, nb))) (hnb : nb < 2 ^ 31) (hnb2 : 32 ≤ nb) (hb : b ≠ 141 ∧ b ≠ 142) (hk : ∀ j, j < 32 → I b j = nI (k j) ∧ k j < 256) : hM l a0 D sa yX8_begin cX8_begin 3 none { frames := 1, cells := 0, slots := 0, locals := 25 } [.ref (A 137), .ref (A b)] (T, I, L, R, A) (fun r G' => r = none ∧ ∃ I' L', G' = (T, I', L', R, A) ∧ tgS L' (bN (clN k) 16) 0 ∧ (∀ j, j < 16 → I' 142 j = nI (k (16 + j))) ∧ fx [141, 142] I I' ∧ fy [138, 139] L L') := by
  refine hM.of (by decide +kernel) (Nat.le_of_ble_eq_true rfl) ?_
  intro z hl h0 hD hS hN C E
  subst hl; subst h0; subst hD; subst hS
  have C : hC z RX8 cX8_begin := C
  have hZ := E.2.2.2.1
  show hX z 0 0 (T, I, L, R, A) [(0, .ref (A 137)), (1, .ref (A b))] 0 []
  refine x_iconst (v := nI 0) C dX8_begin_0 (by decide +kernel) ?_
  refine x_istore_n (lv' := [(2, .int (nI 0)), (0, .ref (A 137)), (1, .ref (A b))]) C dX8_begin_1 rfl (Nat.lt_of_lt_of_eq (by decide) hN.symm) rfl ?_
  have L2 : ∀ (fuel_ : Nat) (i : Nat) (J : Nat → Nat → Int32), 16 - i < fuel_ → (i ≤ 16) → (∀ j, j < i → J 141 j = nI (clN k j)) → (∀ j, j < i → J 142 j = nI (k (16 + j))) → (fx [141, 142] I J) → hX z 0 0 (T, J, L, R, A) [(2, .int (nI i)), (0, .ref (A 137)), (1, .ref (A b))] 2 [] := by
    intro fuel_
    induction fuel_ with
    | zero => intro i J hmz; exact absurd hmz (Nat.not_lt_zero _)
    | succ fuel_ ih2 =>
      intro i J hmz hi hB hL fJ
      refine x_iload_n C dX8_begin_2 0 rfl rfl ?_
      refine x_bipush (v := nI 16) C dX8_begin_3 (by decide +kernel) ?_
      refine x_icmp_geN (tgt := 40) C (by omega) (by omega) dX8_begin_5 (by decide) (fun c5 => ?_) (fun c5 => ?_)
      · refine x_aload_n C dX8_begin_40 1 rfl rfl ?_
        refine x_getrN C fl_X8_21 (xO.1 137 _ rfl).1 rfl (xO.2.1 137 3 _ rfl) dX8_begin_41 ?_
        refine x_bipush (v := nI 16) C dX8_begin_44 (by decide +kernel) ?_
        refine x_iconst (v := nI 0) C dX8_begin_46 (by decide +kernel) ?_
        refine x_iastN C (xO.1 141 _ rfl).1 (xO.1 141 _ rfl).2 (by omega) (by omega) dX8_begin_47 (fun I1 eI1 => ?_)
        have hc := b17_f (e := 0) (fun j hj => ⟨hB j (by omega), clN_lt (hk j (by omega)).2⟩) (by decide)
        have e141 : I1 141 = upd (J 141) 16 (nI 0) := by rw [eI1, up_eq]
        have hm142 : ∀ j, j < 16 → I1 142 j = nI (k (16 + j)) := fun j hj => by rw [eI1, up_ne _ _ (by decide)]; exact hL j (by omega)
        have fI : fx [141, 142] I I1 := by rw [eI1]; exact fJ.up (by simp)
        refine x_iconst (v := nI 0) C dX8_begin_48 (by decide +kernel) ?_
        refine x_istore_n (lv' := [(2, .int (nI 0)), (0, .ref (A 137)), (1, .ref (A b))]) C dX8_begin_49 rfl (Nat.lt_of_lt_of_eq (by decide) hN.symm) rfl ?_
        have L50 : ∀ (fuel_ : Nat) (i : Nat) (K : Nat → Nat → Int64), 5 - i < fuel_ → (i ≤ 5) → (∀ j, j < i → K 138 j = lZ (tF (b17 (clN k) 0) j)) → (∀ j, j < i → K 139 j = lZ 0) → (fy [138, 139] L K) → hX z 0 0 (T, I1, K, R, A) [(2, .int (nI i)), (0, .ref (A 137)), (1, .ref (A b))] 50 [] := by
          intro fuel_
          induction fuel_ with
          | zero => intro i K hmz; exact absurd hmz (Nat.not_lt_zero _)
          | succ fuel_ ih50 =>
            intro i K hmz hi hF hS fK
            refine x_iload_n C dX8_begin_50 0 rfl rfl ?_
            refine x_iconst (v := nI 5) C dX8_begin_51 (by decide +kernel) ?_
            refine x_icmp_geN (tgt := 87) C (by omega) (by omega) dX8_begin_52 (by decide) (fun c52 => ?_) (fun c52 => ?_)
            · exact x_vret C E (Nat.le_of_ble_eq_true rfl) (Nat.le_of_ble_eq_true rfl) dX8_begin_87 (⟨rfl, _, K, rfl, ⟨⟨_, fun j hj => hF j (by omega), fun j hj => tF_b _ j, clV (fun j hj => (hk j (by omega)).2)⟩, fun _ => 0, fun j hj => hS j (by omega), tB_0, by decide +kernel⟩, hm142, fI, fK⟩)
            · refine x_aload_n C dX8_begin_55 1 rfl rfl ?_
              refine x_getrN C fl_X8_11 (xO.1 137 _ rfl).1 rfl (xO.2.1 137 0 _ rfl) dX8_begin_56 ?_
              refine x_iload_n C dX8_begin_59 0 rfl rfl ?_
              refine x_aload_n C dX8_begin_60 1 rfl rfl ?_
              refine x_getrN C fl_X8_21 (xO.1 137 _ rfl).1 rfl (xO.2.1 137 3 _ rfl) dX8_begin_61 ?_
              refine x_bipush (v := nI 26) C dX8_begin_64 (by decide +kernel) ?_
              refine x_iload_n C dX8_begin_66 0 rfl rfl ?_
              refine x_imulN C dX8_begin_67 ?_
              refine x_bipush (v := nI 26) C dX8_begin_68 (by decide +kernel) ?_
              refine x_callSN C (ok_X10_bitsOf 141 17 (26 * i) 26 (xO.1 141 _ rfl).1 (by decide) (by omega) (by omega)) ms_X10_bitsOf ml_X8_32 rfl rfl (Nat.le_of_ble_eq_true rfl) (hrm (rm := { frames := 0, cells := 0, slots := 0, locals := 0 }) hZ ⟨Nat.le_of_ble_eq_true rfl, Nat.le_of_ble_eq_true rfl⟩) (hcs hZ ⟨Nat.le_of_ble_eq_true rfl, Nat.le_of_ble_eq_true rfl⟩) dX8_begin_70 (fun v G' hp => ?_)
              obtain ⟨rfl, rfl⟩ := hp
              show hX z 0 0 (T, I1, K, R, A) [(2, .int (nI i)), (0, .ref (A 137)), (1, .ref (A b))] 73 [.long (bitsF (I1 141) (26 * i) 26), .int (nI i), .ref (A 138)]
              refine x_eql (y := lZ (tF (b17 (clN k) 0) i)) (by rw [e141]; exact bitsF_val (b := b17 (clN k) 0) (fun j hj => hc _ (by omega)) (by omega)) ?_
              refine x_lastN C (xO.1 138 _ rfl).1 (xO.1 138 _ rfl).2 (by omega) (by omega) dX8_begin_73 (fun L2 eL2 => ?_)
              refine x_aload_n C dX8_begin_74 1 rfl rfl ?_
              refine x_getrN C fl_X8_15 (xO.1 137 _ rfl).1 rfl (xO.2.1 137 1 _ rfl) dX8_begin_75 ?_
              refine x_iload_n C dX8_begin_78 0 rfl rfl ?_
              refine x_lconst (v := lZ 0) C dX8_begin_79 (by decide +kernel) ?_
              refine x_lastN C (xO.1 139 _ rfl).1 (xO.1 139 _ rfl).2 (by omega) (by omega) dX8_begin_80 (fun L3 eL3 => ?_)
              refine x_iinc (v := nI (i + 1)) (lv' := [(2, .int (nI (i + 1))), (0, .ref (A 137)), (1, .ref (A b))]) C dX8_begin_81 0 rfl (nI_inc 1) (Nat.lt_of_lt_of_eq (by decide) hN.symm) rfl ?_
              refine x_goto (tgt := 50) C dX8_begin_84 (by decide) ?_
              refine x_sub (lv' := _) [0, 1, 2] rfl ?_
              exact ih50 (i + 1) L3 (by omega) (by omega) (g_apL (f := fun j => lZ (tF (b17 (clN k) 0) j)) hF (by rw [eL3, up_ne _ _ (by decide), eL2, up_eq])) (g_apL (f := fun j => lZ 0) hS (by rw [eL3, up_eq, eL2, up_ne _ _ (by decide)])) ((fK.up eL2 (by simp)).up eL3 (by simp))
        refine x_sub (lv' := _) [0, 1, 2] rfl ?_
        exact L50 _ 0 L (Nat.lt_succ_self _) (by omega) (fun j h => absurd h (by omega)) (fun j h => absurd h (by omega)) fy.rf
      · refine x_aload_n C dX8_begin_8 1 rfl rfl ?_
        refine x_getrN C fl_X8_21 (xO.1 137 _ rfl).1 rfl (xO.2.1 137 3 _ rfl) dX8_begin_9 ?_
        refine x_iload_n C dX8_begin_12 0 rfl rfl ?_
        refine x_aload_n C dX8_begin_13 2 rfl rfl ?_
        refine x_iload_n C dX8_begin_14 0 rfl rfl ?_
        refine x_ialdN C hTb (by omega) (by omega) dX8_begin_15 ?_
        refine x_eqi (y := nI (k i)) ((fJ b (by simp [hb])).symm ▸ (hk i (by omega)).1) ?_
        refine x_iload_n C dX8_begin_16 0 rfl rfl ?_
        refine x_callS C (ok_X8_clampOf i (by omega)) ms_X8_clampOf ml_X8_28 rfl rfl (Nat.le_of_ble_eq_true rfl) (hrm (rm := { frames := 0, cells := 0, slots := 0, locals := 0 }) hZ ⟨Nat.le_of_ble_eq_true rfl, Nat.le_of_ble_eq_true rfl⟩) (hcs hZ ⟨Nat.le_of_ble_eq_true rfl, Nat.le_of_ble_eq_true rfl⟩) dX8_begin_17 (fun v G' hp => ?_)
        obtain ⟨rfl, rfl⟩ := hp
        show hX z 0 0 (T, J, L, R, A) [(2, .int (nI i)), (0, .ref (A 137)), (1, .ref (A b))] 20 [.int (nI (clC i)), .int (nI (k i)), .int (nI i), .ref (A 141)]
        refine x_iand C dX8_begin_20 ?_
        refine x_iastN C (xO.1 141 _ rfl).1 (xO.1 141 _ rfl).2 (by omega) (by omega) dX8_begin_21 (fun I4 eI4 => ?_)
        refine x_aload_n C dX8_begin_22 1 rfl rfl ?_
        refine x_getrN C fl_X8_25 (xO.1 137 _ rfl).1 rfl (xO.2.1 137 4 _ rfl) dX8_begin_23 ?_
        refine x_iload_n C dX8_begin_26 0 rfl rfl ?_
        refine x_aload_n C dX8_begin_27 2 rfl rfl ?_
        refine x_bipush (v := nI 16) C dX8_begin_28 (by decide +kernel) ?_
        refine x_iload_n C dX8_begin_30 0 rfl rfl ?_
        refine x_iaddN C dX8_begin_31 ?_
        refine x_ialdN C hTb (by omega) (by omega) dX8_begin_32 ?_
        refine x_iastN C (xO.1 142 _ rfl).1 (xO.1 142 _ rfl).2 (by omega) (by omega) dX8_begin_33 (fun I5 eI5 => ?_)
        refine x_iinc (v := nI (i + 1)) (lv' := [(2, .int (nI (i + 1))), (0, .ref (A 137)), (1, .ref (A b))]) C dX8_begin_34 0 rfl (nI_inc 1) (Nat.lt_of_lt_of_eq (by decide) hN.symm) rfl ?_
        refine x_goto (tgt := 2) C dX8_begin_37 (by decide) ?_
        refine x_sub (lv' := _) [0, 1, 2] rfl ?_
        exact ih2 (i + 1) I5 (by omega) (by omega) (g_ap (f := fun j => nI (clN k j)) hB (by rw [eI5, up_ne _ _ (by decide), eI4, up_eq, cl_and (hk i (by omega)).2])) (g_ap (f := fun j => nI (k (16 + j))) hL (by rw [eI5, up_eq, eI4, up_ne _ _ (by decide), up_ne _ _ hb.1, fJ b (by simp [hb]), (hk (16 + i) (by omega)).1])) (by rw [eI5, eI4]; exact (fJ.up (by simp)).up (by simp))
  refine x_sub (lv' := _) [0, 1, 2] rfl ?_
  exact L2 _ 0 I (Nat.lt_succ_self _) (by omega) (fun j h => absurd h (by omega)) (fun j h => absurd h (by omega)) fx.rf

theorem blk_b17 (b : Nat → Nat) (e : Nat) : blk (b17 b e) 0 = blk b 0 := blk_cg (fun t ht => by unfold b17; rw [if_pos (by omega)])
set_option maxHeartbeats 4000000 in
set_option maxRecDepth 100000 in
theorem ok_X8_addBlock {l : Launch} {a0 : Nat} {D : va_G} {sa : Nat → Nat} {T : Nat → Option hKd} {I : Nat → Nat → Int32} {L : Nat → Nat → Int64} {R : Nat → Nat → Option Nat} {A : Nat → Nat} (xO : isX T R A a0) (hsa : ∀ k, k < 5 → sa k = A (90 + k)) (b : Nat → Nat) (r v : Int) (hg : tgS L r v) (hb : ∀ j, j < 16 → I 141 j = nI (b j) ∧ b j < 256) : hM l a0 D sa yX8_addBlock cX8_addBlock 6 none { frames := 1, cells := 0, slots := 0, locals := 25 } [.ref (A 137)] (T, I, L, R, A) (fun r' G' => r' = none ∧ ∃ I' L', G' = (T, I', L', R, A) ∧ tgS L' r ((v + blk b 0) * r % Q5) ∧ (∀ j, j < 16 → I' 141 j = I 141 j) ∧ fx [141] I I' ∧ fy [139, 140] L L') := by
  refine hM.of (by decide +kernel) (Nat.le_of_ble_eq_true rfl) ?_
  intro z hl h0 hD hS hN C E
  subst hl; subst h0; subst hD; subst hS
  have C : hC z RX8 cX8_addBlock := C
  have hZ := E.2.2.2.1
  show hX z 0 0 (T, I, L, R, A) [(0, .ref (A 137))] 0 []
  obtain ⟨⟨f, hF0, bF, rF⟩, s, hs, bs, vs⟩ := hg
  refine x_aload_n C dX8_addBlock_0 0 rfl rfl ?_
  refine x_getrN C fl_X8_21 (xO.1 137 _ rfl).1 rfl (xO.2.1 137 3 _ rfl) dX8_addBlock_1 ?_
  refine x_bipush (v := nI 16) C dX8_addBlock_4 (by decide +kernel) ?_
  refine x_iconst (v := nI 1) C dX8_addBlock_6 (by decide +kernel) ?_
  refine x_iastN C (xO.1 141 _ rfl).1 (xO.1 141 _ rfl).2 (by omega) (by omega) dX8_addBlock_7 (fun I1 eI1 => ?_)
  have hc := b17_f (e := 1) hb (by decide)
  have e141 : I1 141 = upd (I 141) 16 (nI 1) := by rw [eI1, up_eq]
  refine x_iconst (v := nI 0) C dX8_addBlock_8 (by decide +kernel) ?_
  refine x_istore_n (lv' := [(1, .int (nI 0)), (0, .ref (A 137))]) C dX8_addBlock_9 rfl (Nat.lt_of_lt_of_eq (by decide) hN.symm) rfl ?_
  have L10 : ∀ (fuel_ : Nat) (i : Nat) (K : Nat → Nat → Int64), 5 - i < fuel_ → (i ≤ 5) → (t5 K 139 (fun j => if j < i then (tS s (b17 b 1)) j else s j)) → (∀ j, j < i → K 140 j = lZ 0) → (t5 K 138 f) → (fy [139, 140] L K) → hX z 0 0 (T, I1, K, R, A) [(1, .int (nI i)), (0, .ref (A 137))] 10 [] := by
    intro fuel_
    induction fuel_ with
    | zero => intro i K hmz; exact absurd hmz (Nat.not_lt_zero _)
    | succ fuel_ ih10 =>
      intro i K hmz hi hS hP hF fK
      refine x_iload_n C dX8_addBlock_10 0 rfl rfl ?_
      refine x_iconst (v := nI 5) C dX8_addBlock_11 (by decide +kernel) ?_
      refine x_icmp_geN (tgt := 50) C (by omega) (by omega) dX8_addBlock_12 (by decide) (fun c12 => ?_) (fun c12 => ?_)
      · refine x_iconst (v := nI 0) C dX8_addBlock_50 (by decide +kernel) ?_
        refine x_istore_n (lv' := [(1, .int (nI 0)), (0, .ref (A 137))]) C dX8_addBlock_51 rfl (Nat.lt_of_lt_of_eq (by decide) hN.symm) rfl ?_
        have L52 : ∀ (fuel_ : Nat) (i : Nat) (K : Nat → Nat → Int64), 5 - i < fuel_ → (i ≤ 5) → (t5 K 139 (tS s (b17 b 1))) → (t5 K 140 (tAl (tS s (b17 b 1)) f i)) → (t5 K 138 f) → (fy [139, 140] L K) → hX z 0 0 (T, I1, K, R, A) [(1, .int (nI i)), (0, .ref (A 137))] 52 [] := by
          intro fuel_
          induction fuel_ with
          | zero => intro i K hmz; exact absurd hmz (Nat.not_lt_zero _)
          | succ fuel_ ih52 =>
            intro i K hmz hi hS hP hF fK
            refine x_iload_n C dX8_addBlock_52 0 rfl rfl ?_
            refine x_iconst (v := nI 5) C dX8_addBlock_53 (by decide +kernel) ?_
            refine x_icmp_geN (tgt := 130) C (by omega) (by omega) dX8_addBlock_54 (by decide) (fun c54 => ?_) (fun c54 => ?_)
            · refine x_lconst (v := lZ 0) C dX8_addBlock_130 (by decide +kernel) ?_
              refine x_lstore_n (lv' := [(1, .long (lZ 0)), (0, .ref (A 137))]) C dX8_addBlock_131 rfl (Nat.lt_of_lt_of_eq (by decide) hN.symm) rfl ?_
              refine x_iconst (v := nI 0) C dX8_addBlock_132 (by decide +kernel) ?_
              refine x_istore_n (lv' := [(3, .int (nI 0)), (1, .long (lZ 0)), (0, .ref (A 137))]) C dX8_addBlock_133 rfl (Nat.lt_of_lt_of_eq (by decide) hN.symm) rfl ?_
              have L134 : ∀ (fuel_ : Nat) (i : Nat) (ov : Int) (K : Nat → Nat → Int64), 5 - i < fuel_ → (i ≤ 5) → (ov = tOv (tAl (tS s (b17 b 1)) f 5) i) → (t5 K 139 (fun j => if j < i then tG (tAl (tS s (b17 b 1)) f 5) j else (tS s (b17 b 1)) j)) → (t5 K 140 (tAl (tS s (b17 b 1)) f 5)) → (t5 K 138 f) → (fy [139, 140] L K) → hX z 0 0 (T, I1, K, R, A) [(3, .int (nI i)), (1, .long (lZ ov)), (0, .ref (A 137))] 134 [] := by
                intro fuel_
                induction fuel_ with
                | zero => intro i ov K hmz; exact absurd hmz (Nat.not_lt_zero _)
                | succ fuel_ ih134 =>
                  intro i ov K hmz hi hov hS hP hF fK
                  have hob := tOv_b (p := (tAl (tS s (b17 b 1)) f 5)) (fun k _ => tAl_b' (tS_b bs _) bF (Nat.le_refl 5) k) i hi
                  have hpb := tAl_b' (tS_b bs (b17 b 1)) bF (Nat.le_refl 5) i
                  refine x_iload_n C dX8_addBlock_134 0 rfl rfl ?_
                  refine x_iconst (v := nI 5) C dX8_addBlock_135 (by decide +kernel) ?_
                  refine x_icmp_geN (tgt := 173) C (by omega) (by omega) dX8_addBlock_136 (by decide) (fun c136 => ?_) (fun c136 => ?_)
                  · have hS5 : t5 K 139 (tG (tAl (tS s (b17 b 1)) f 5)) := hS.to (fun j hj => by rw [if_pos (by omega)])
                    have hov5 : ov = tOv (tAl (tS s (b17 b 1)) f 5) 5 := by rw [hov, show i = 5 by omega]
                    have hgb := tG_b (tAl (tS s (b17 b 1)) f 5) 0
                    have hob5 := tOv_b (p := (tAl (tS s (b17 b 1)) f 5)) (fun k _ => tAl_b' (tS_b bs _) bF (Nat.le_refl 5) k) 5 (Nat.le_refl _)
                    refine x_aload_n C dX8_addBlock_173 2 rfl rfl ?_
                    refine x_getrN C fl_X8_15 (xO.1 137 _ rfl).1 rfl (xO.2.1 137 1 _ rfl) dX8_addBlock_174 ?_
                    refine x_iconst (v := nI 0) C dX8_addBlock_177 (by decide +kernel) ?_
                    refine x_dup2 C dX8_addBlock_178 rfl rfl ?_
                    refine x_laldN C (xO.1 139 _ rfl).1 (by omega) (by omega) dX8_addBlock_179 ?_
                    refine x_eql (y := lZ (tG (tAl (tS s (b17 b 1)) f 5) 0)) (hS5 0 (by decide)) ?_
                    refine x_ldc2 C dX8_addBlock_180 kc_X8_39 ?_
                    refine x_eql (y := lZ 5) (lZ_lit 5) ?_
                    refine x_lload_n C dX8_addBlock_183 1 rfl rfl ?_
                    refine x_lmulZ C dX8_addBlock_184 ?_
                    refine x_laddZ C dX8_addBlock_185 ?_
                    refine x_lastN C (xO.1 139 _ rfl).1 (xO.1 139 _ rfl).2 (by omega) (by omega) dX8_addBlock_186 (fun L2 eL2 => ?_)
                    have hS6 := hS5.w eL2
                    refine x_aload_n C dX8_addBlock_187 2 rfl rfl ?_
                    refine x_getrN C fl_X8_15 (xO.1 137 _ rfl).1 rfl (xO.2.1 137 1 _ rfl) dX8_addBlock_188 ?_
                    refine x_iconst (v := nI 1) C dX8_addBlock_191 (by decide +kernel) ?_
                    refine x_dup2 C dX8_addBlock_192 rfl rfl ?_
                    refine x_laldN C (xO.1 139 _ rfl).1 (by omega) (by omega) dX8_addBlock_193 ?_
                    refine x_eql (y := lZ (tG (tAl (tS s (b17 b 1)) f 5) 1)) (hS6 1 (by decide)) ?_
                    refine x_aload_n C dX8_addBlock_194 2 rfl rfl ?_
                    refine x_getrN C fl_X8_15 (xO.1 137 _ rfl).1 rfl (xO.2.1 137 1 _ rfl) dX8_addBlock_195 ?_
                    refine x_iconst (v := nI 0) C dX8_addBlock_198 (by decide +kernel) ?_
                    refine x_laldN C (xO.1 139 _ rfl).1 (by omega) (by omega) dX8_addBlock_199 ?_
                    refine x_eql (y := lZ (tG (tAl (tS s (b17 b 1)) f 5) 0 + 5 * ov)) (hS6 0 (by decide)) ?_
                    refine x_bipush (v := nI 26) C dX8_addBlock_200 (by decide +kernel) ?_
                    refine x_lshr C dX8_addBlock_202 ?_
                    refine x_eql (y := lZ ((tG (tAl (tS s (b17 b 1)) f 5) 0 + 5 * ov) / 67108864)) (lZ_shr26 (by omega) (by omega)) ?_
                    refine x_laddZ C dX8_addBlock_203 ?_
                    refine x_lastN C (xO.1 139 _ rfl).1 (xO.1 139 _ rfl).2 (by omega) (by omega) dX8_addBlock_204 (fun L3 eL3 => ?_)
                    have hS7 := hS6.w eL3
                    refine x_aload_n C dX8_addBlock_205 2 rfl rfl ?_
                    refine x_getrN C fl_X8_15 (xO.1 137 _ rfl).1 rfl (xO.2.1 137 1 _ rfl) dX8_addBlock_206 ?_
                    refine x_iconst (v := nI 0) C dX8_addBlock_209 (by decide +kernel) ?_
                    refine x_dup2 C dX8_addBlock_210 rfl rfl ?_
                    refine x_laldN C (xO.1 139 _ rfl).1 (by omega) (by omega) dX8_addBlock_211 ?_
                    refine x_eql (y := lZ (tG (tAl (tS s (b17 b 1)) f 5) 0 + 5 * ov)) (hS7 0 (by decide)) ?_
                    refine x_ldc2 C dX8_addBlock_212 kc_X8_41 ?_
                    refine x_eql (y := lZ 67108863) (lZ_lit 67108863) ?_
                    refine x_land C dX8_addBlock_215 ?_
                    refine x_eql (y := lZ ((tG (tAl (tS s (b17 b 1)) f 5) 0 + 5 * ov) % 67108864)) (lZ_and26 _) ?_
                    refine x_lastN C (xO.1 139 _ rfl).1 (xO.1 139 _ rfl).2 (by omega) (by omega) dX8_addBlock_216 (fun L4 eL4 => ?_)
                    exact x_vret C E (Nat.le_of_ble_eq_true rfl) (Nat.le_of_ble_eq_true rfl) dX8_addBlock_217 (⟨rfl, I1, L4, rfl, ⟨⟨f, ((hF.o eL2 (by decide)).o eL3 (by decide)).o eL4 (by decide), bF, rF⟩, tCar (tAl (tS s (b17 b 1)) f 5), (hS7.w eL4).to (tCar_fin hov5), tCar_b (fun k _ => tAl_b' (tS_b bs _) bF (Nat.le_refl 5) k), by rw [tBlock (F := (tS s (b17 b 1))) vs (fun _ _ => rfl) (fun j hj => (hc j (by omega)).2) rfl, rF, blk_b17]⟩, fun j hj => by rw [e141]; exact if_neg (by omega), by rw [eI1]; exact fx.rf.up (by simp), ((fK.up eL2 (by simp)).up eL3 (by simp)).up eL4 (by simp)⟩)
                  · refine x_aload_n C dX8_addBlock_139 2 rfl rfl ?_
                    refine x_getrN C fl_X8_18 (xO.1 137 _ rfl).1 rfl (xO.2.1 137 2 _ rfl) dX8_addBlock_140 ?_
                    refine x_iload_n C dX8_addBlock_143 0 rfl rfl ?_
                    refine x_laldN C (xO.1 140 _ rfl).1 (by omega) (by omega) dX8_addBlock_144 ?_
                    refine x_eql (y := lZ ((tAl (tS s (b17 b 1)) f 5) i)) (hP i (by omega)) ?_
                    refine x_lload_n C dX8_addBlock_145 1 rfl rfl ?_
                    refine x_laddZ C dX8_addBlock_146 ?_
                    refine x_lstore (lv' := [(4, .long (lZ (((tAl (tS s (b17 b 1)) f 5) i) + ov))), (3, .int (nI i)), (1, .long (lZ ov)), (0, .ref (A 137))]) C dX8_addBlock_147 (Nat.lt_of_lt_of_eq (by decide) hN.symm) rfl ?_
                    refine x_lload C dX8_addBlock_149 0 rfl ?_
                    refine x_bipush (v := nI 26) C dX8_addBlock_151 (by decide +kernel) ?_
                    refine x_lshr C dX8_addBlock_153 ?_
                    refine x_eql (y := lZ (((tAl (tS s (b17 b 1)) f 5) i + ov) / 67108864)) (lZ_shr26 (by omega) (by omega)) ?_
                    refine x_lstore_n (lv' := [(1, .long (lZ (((tAl (tS s (b17 b 1)) f 5) i + ov) / 67108864))), (4, .long (lZ (((tAl (tS s (b17 b 1)) f 5) i) + ov))), (3, .int (nI i)), (0, .ref (A 137))]) C dX8_addBlock_154 rfl (Nat.lt_of_lt_of_eq (by decide) hN.symm) rfl ?_
                    refine x_aload_n C dX8_addBlock_155 3 rfl rfl ?_
                    refine x_getrN C fl_X8_15 (xO.1 137 _ rfl).1 rfl (xO.2.1 137 1 _ rfl) dX8_addBlock_156 ?_
                    refine x_iload_n C dX8_addBlock_159 2 rfl rfl ?_
                    refine x_lload C dX8_addBlock_160 1 rfl ?_
                    refine x_ldc2 C dX8_addBlock_162 kc_X8_41 ?_
                    refine x_eql (y := lZ 67108863) (lZ_lit 67108863) ?_
                    refine x_land C dX8_addBlock_165 ?_
                    refine x_eql (y := lZ (((tAl (tS s (b17 b 1)) f 5) i + ov) % 67108864)) (lZ_and26 _) ?_
                    refine x_lastN C (xO.1 139 _ rfl).1 (xO.1 139 _ rfl).2 (by omega) (by omega) dX8_addBlock_166 (fun L5 eL5 => ?_)
                    refine x_iinc (v := nI (i + 1)) (lv' := [(3, .int (nI (i + 1))), (1, .long (lZ (((tAl (tS s (b17 b 1)) f 5) i + ov) / 67108864))), (4, .long (lZ (((tAl (tS s (b17 b 1)) f 5) i) + ov))), (0, .ref (A 137))]) C dX8_addBlock_167 2 rfl (nI_inc 1) (Nat.lt_of_lt_of_eq (by decide) hN.symm) rfl ?_
                    refine x_goto (tgt := 134) C dX8_addBlock_170 (by decide) ?_
                    refine x_sub (lv' := _) [0, 1, 3] rfl ?_
                    exact ih134 (i + 1) (((tAl (tS s (b17 b 1)) f 5) i + ov) / 67108864) L5 (by omega) (by omega) (by rw [hov]; rfl) (hS.f (N := tG (tAl (tS s (b17 b 1)) f 5)) (by rw [eL5, hov]; rfl)) (hP.o eL5 (by decide)) (hF.o eL5 (by decide)) (fK.up eL5 (by simp))
              refine x_sub (lv' := _) [0, 1, 2] rfl ?_
              exact L134 _ 0 0 K (Nat.lt_succ_self _) (by omega) rfl (hS.to (fun j _ => by rw [if_neg (by omega)])) (hP.to (fun j _ => by rw [show i = 5 by omega])) hF fK
            · refine x_iconst (v := nI 0) C dX8_addBlock_57 (by decide +kernel) ?_
              refine x_istore_n (lv' := [(2, .int (nI 0)), (1, .int (nI i)), (0, .ref (A 137))]) C dX8_addBlock_58 rfl (Nat.lt_of_lt_of_eq (by decide) hN.symm) rfl ?_
              have L59 : ∀ (fuel_ : Nat) (j : Nat) (K : Nat → Nat → Int64), 5 - j < fuel_ → (j ≤ 5) → (t5 K 139 (tS s (b17 b 1))) → (t5 K 140 (tRw (tS s (b17 b 1)) f i (tAl (tS s (b17 b 1)) f i) j)) → (t5 K 138 f) → (fy [139, 140] L K) → hX z 0 0 (T, I1, K, R, A) [(2, .int (nI j)), (1, .int (nI i)), (0, .ref (A 137))] 59 [] := by
                intro fuel_
                induction fuel_ with
                | zero => intro j K hmz; exact absurd hmz (Nat.not_lt_zero _)
                | succ fuel_ ih59 =>
                  intro j K hmz hj hS hP hF fK
                  refine x_iload_n C dX8_addBlock_59 0 rfl rfl ?_
                  refine x_iconst (v := nI 5) C dX8_addBlock_60 (by decide +kernel) ?_
                  refine x_icmp_geN (tgt := 124) C (by omega) (by omega) dX8_addBlock_61 (by decide) (fun c61 => ?_) (fun c61 => ?_)
                  · refine x_iinc (v := nI (i + 1)) (lv' := [(1, .int (nI (i + 1))), (2, .int (nI j)), (0, .ref (A 137))]) C dX8_addBlock_124 1 rfl (nI_inc 1) (Nat.lt_of_lt_of_eq (by decide) hN.symm) rfl ?_
                    refine x_goto (tgt := 52) C dX8_addBlock_127 (by decide) ?_
                    refine x_sub (lv' := _) [0, 2] rfl ?_
                    exact ih52 (i + 1) K (by omega) (by omega) hS (hP.to (fun k hk => by rw [show j = 5 by omega]; rfl)) hF fK
                  · refine x_aload_n C dX8_addBlock_64 2 rfl rfl ?_
                    refine x_getrN C fl_X8_15 (xO.1 137 _ rfl).1 rfl (xO.2.1 137 1 _ rfl) dX8_addBlock_65 ?_
                    refine x_iload_n C dX8_addBlock_68 1 rfl rfl ?_
                    refine x_laldN C (xO.1 139 _ rfl).1 (by omega) (by omega) dX8_addBlock_69 ?_
                    refine x_eql (y := lZ ((tS s (b17 b 1)) i)) (hS i (by omega)) ?_
                    refine x_aload_n C dX8_addBlock_70 2 rfl rfl ?_
                    refine x_getrN C fl_X8_11 (xO.1 137 _ rfl).1 rfl (xO.2.1 137 0 _ rfl) dX8_addBlock_71 ?_
                    refine x_iload_n C dX8_addBlock_74 0 rfl rfl ?_
                    refine x_laldN C (xO.1 138 _ rfl).1 (by omega) (by omega) dX8_addBlock_75 ?_
                    refine x_eql (y := lZ (f j)) (hF j (by omega)) ?_
                    refine x_lmulZ C dX8_addBlock_76 ?_
                    refine x_lstore_n (lv' := [(3, .long (lZ (((tS s (b17 b 1)) i) * (f j)))), (2, .int (nI j)), (1, .int (nI i)), (0, .ref (A 137))]) C dX8_addBlock_77 rfl (Nat.lt_of_lt_of_eq (by decide) hN.symm) rfl ?_
                    refine x_iload_n C dX8_addBlock_78 2 rfl rfl ?_
                    refine x_iload_n C dX8_addBlock_79 1 rfl rfl ?_
                    refine x_iaddN C dX8_addBlock_80 ?_
                    refine x_iconst (v := nI 5) C dX8_addBlock_81 (by decide +kernel) ?_
                    refine x_icmp_geN (tgt := 100) C (by omega) (by omega) dX8_addBlock_82 (by decide) (fun c82 => ?_) (fun c82 => ?_)
                    · refine x_aload_n C dX8_addBlock_100 3 rfl rfl ?_
                      refine x_getrN C fl_X8_18 (xO.1 137 _ rfl).1 rfl (xO.2.1 137 2 _ rfl) dX8_addBlock_101 ?_
                      refine x_iload_n C dX8_addBlock_104 2 rfl rfl ?_
                      refine x_iload_n C dX8_addBlock_105 1 rfl rfl ?_
                      refine x_iaddN C dX8_addBlock_106 ?_
                      refine x_iconst (v := nI 5) C dX8_addBlock_107 (by decide +kernel) ?_
                      refine x_isubN C (by omega) dX8_addBlock_108 ?_
                      refine x_dup2 C dX8_addBlock_109 rfl rfl ?_
                      refine x_laldN C (xO.1 140 _ rfl).1 (by omega) (by omega) dX8_addBlock_110 ?_
                      refine x_eql (y := lZ (tRw (tS s (b17 b 1)) f i (tAl (tS s (b17 b 1)) f i) j (i + j - 5))) (hP _ (by omega)) ?_
                      refine x_ldc2 C dX8_addBlock_111 kc_X8_39 ?_
                      refine x_eql (y := lZ 5) (lZ_lit 5) ?_
                      refine x_lload_n C dX8_addBlock_114 0 rfl rfl ?_
                      refine x_lmulZ C dX8_addBlock_115 ?_
                      refine x_laddZ C dX8_addBlock_116 ?_
                      refine x_lastN C (xO.1 140 _ rfl).1 (xO.1 140 _ rfl).2 (by omega) (by omega) dX8_addBlock_117 (fun L6 eL6 => ?_)
                      refine x_iinc (v := nI (j + 1)) (lv' := [(2, .int (nI (j + 1))), (3, .long (lZ (((tS s (b17 b 1)) i) * (f j)))), (1, .int (nI i)), (0, .ref (A 137))]) C dX8_addBlock_118 1 rfl (nI_inc 1) (Nat.lt_of_lt_of_eq (by decide) hN.symm) rfl ?_
                      refine x_goto (tgt := 59) C dX8_addBlock_121 (by decide) ?_
                      refine x_sub (lv' := _) [0, 2, 3] rfl ?_
                      exact ih59 (j + 1) L6 (by omega) (by omega) (hS.o eL6 (by decide)) (tRw_w2 hP (by omega) (by omega) (by omega) eL6) (hF.o eL6 (by decide)) (fK.up eL6 (by simp))
                    · refine x_aload_n C dX8_addBlock_85 3 rfl rfl ?_
                      refine x_getrN C fl_X8_18 (xO.1 137 _ rfl).1 rfl (xO.2.1 137 2 _ rfl) dX8_addBlock_86 ?_
                      refine x_iload_n C dX8_addBlock_89 2 rfl rfl ?_
                      refine x_iload_n C dX8_addBlock_90 1 rfl rfl ?_
                      refine x_iaddN C dX8_addBlock_91 ?_
                      refine x_dup2 C dX8_addBlock_92 rfl rfl ?_
                      refine x_laldN C (xO.1 140 _ rfl).1 (by omega) (by omega) dX8_addBlock_93 ?_
                      refine x_eql (y := lZ (tRw (tS s (b17 b 1)) f i (tAl (tS s (b17 b 1)) f i) j (i + j))) (hP _ (by omega)) ?_
                      refine x_lload_n C dX8_addBlock_94 0 rfl rfl ?_
                      refine x_laddZ C dX8_addBlock_95 ?_
                      refine x_lastN C (xO.1 140 _ rfl).1 (xO.1 140 _ rfl).2 (by omega) (by omega) dX8_addBlock_96 (fun L7 eL7 => ?_)
                      refine x_goto (tgt := 118) C dX8_addBlock_97 (by decide) ?_
                      refine x_iinc (v := nI (j + 1)) (lv' := [(2, .int (nI (j + 1))), (3, .long (lZ (((tS s (b17 b 1)) i) * (f j)))), (1, .int (nI i)), (0, .ref (A 137))]) C dX8_addBlock_118 1 rfl (nI_inc 1) (Nat.lt_of_lt_of_eq (by decide) hN.symm) rfl ?_
                      refine x_goto (tgt := 59) C dX8_addBlock_121 (by decide) ?_
                      refine x_sub (lv' := _) [0, 2, 3] rfl ?_
                      exact ih59 (j + 1) L7 (by omega) (by omega) (hS.o eL7 (by decide)) (tRw_w1 hP (by omega) eL7) (hF.o eL7 (by decide)) (fK.up eL7 (by simp))
              refine x_sub (lv' := _) [0, 1, 2] rfl ?_
              exact L59 _ 0 K (Nat.lt_succ_self _) (by omega) hS hP hF fK
        refine x_sub (lv' := _) [0, 1] rfl ?_
        exact L52 _ 0 K (Nat.lt_succ_self _) (by omega) (hS.to (fun j _ => by rw [if_pos (by omega)])) (fun j h => hP j (by omega)) hF fK
      · refine x_aload_n C dX8_addBlock_15 1 rfl rfl ?_
        refine x_getrN C fl_X8_15 (xO.1 137 _ rfl).1 rfl (xO.2.1 137 1 _ rfl) dX8_addBlock_16 ?_
        refine x_iload_n C dX8_addBlock_19 0 rfl rfl ?_
        refine x_dup2 C dX8_addBlock_20 rfl rfl ?_
        refine x_laldN C (xO.1 139 _ rfl).1 (by omega) (by omega) dX8_addBlock_21 ?_
        refine x_eql (y := lZ (s i)) (hS.n (by omega)) ?_
        refine x_aload_n C dX8_addBlock_22 1 rfl rfl ?_
        refine x_getrN C fl_X8_21 (xO.1 137 _ rfl).1 rfl (xO.2.1 137 3 _ rfl) dX8_addBlock_23 ?_
        refine x_bipush (v := nI 26) C dX8_addBlock_26 (by decide +kernel) ?_
        refine x_iload_n C dX8_addBlock_28 0 rfl rfl ?_
        refine x_imulN C dX8_addBlock_29 ?_
        refine x_bipush (v := nI 26) C dX8_addBlock_30 (by decide +kernel) ?_
        refine x_callSN C (ok_X10_bitsOf 141 17 (26 * i) 26 (xO.1 141 _ rfl).1 (by decide) (by omega) (by omega)) ms_X10_bitsOf ml_X8_32 rfl rfl (Nat.le_of_ble_eq_true rfl) (hrm (rm := { frames := 0, cells := 0, slots := 0, locals := 0 }) hZ ⟨Nat.le_of_ble_eq_true rfl, Nat.le_of_ble_eq_true rfl⟩) (hcs hZ ⟨Nat.le_of_ble_eq_true rfl, Nat.le_of_ble_eq_true rfl⟩) dX8_addBlock_32 (fun v G' hp => ?_)
        obtain ⟨rfl, rfl⟩ := hp
        show hX z 0 0 (T, I1, K, R, A) [(1, .int (nI i)), (0, .ref (A 137))] 35 [.long (bitsF (I1 141) (26 * i) 26), .long (lZ (s i)), .int (nI i), .ref (A 139)]
        refine x_eql (y := lZ (tF (b17 b 1) i)) (by rw [e141]; exact bitsF_val (b := b17 b 1) (fun j hj => hc _ (by omega)) (by omega)) ?_
        refine x_laddZ C dX8_addBlock_35 ?_
        refine x_lastN C (xO.1 139 _ rfl).1 (xO.1 139 _ rfl).2 (by omega) (by omega) dX8_addBlock_36 (fun L8 eL8 => ?_)
        refine x_aload_n C dX8_addBlock_37 1 rfl rfl ?_
        refine x_getrN C fl_X8_18 (xO.1 137 _ rfl).1 rfl (xO.2.1 137 2 _ rfl) dX8_addBlock_38 ?_
        refine x_iload_n C dX8_addBlock_41 0 rfl rfl ?_
        refine x_lconst (v := lZ 0) C dX8_addBlock_42 (by decide +kernel) ?_
        refine x_lastN C (xO.1 140 _ rfl).1 (xO.1 140 _ rfl).2 (by omega) (by omega) dX8_addBlock_43 (fun L9 eL9 => ?_)
        refine x_iinc (v := nI (i + 1)) (lv' := [(1, .int (nI (i + 1))), (0, .ref (A 137))]) C dX8_addBlock_44 0 rfl (nI_inc 1) (Nat.lt_of_lt_of_eq (by decide) hN.symm) rfl ?_
        refine x_goto (tgt := 10) C dX8_addBlock_47 (by decide) ?_
        refine x_sub (lv' := _) [0, 1] rfl ?_
        exact ih10 (i + 1) L9 (by omega) (by omega) ((hS.f (N := (tS s (b17 b 1))) eL8).o eL9 (by decide)) (g_apL (f := fun j => lZ 0) hP (by rw [eL9, up_eq, eL8, up_ne _ _ (by decide)])) ((hF.o eL8 (by decide)).o eL9 (by decide)) ((fK.up eL8 (by simp)).up eL9 (by simp))
  refine x_sub (lv' := _) [0, 1] rfl ?_
  exact L10 _ 0 L (Nat.lt_succ_self _) (by omega) (hs.to (fun j _ => by rw [if_neg (by omega)])) (fun j h => absurd h (by omega)) hF0 fy.rf

