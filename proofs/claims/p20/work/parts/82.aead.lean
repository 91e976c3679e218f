/-! ===== Cipher: seal, open ===== -/
/-- what is sealed: m bytes and their tag -/
def encF (K : Nat → Int32) (n : Int32) (am : Nat) (X : Nat → Nat) (f : Nat → Int32) (m j : Nat) : Int32 := if j < m then f j ^^^ strm K n j else nI (tagO K n am X m (fun i => byt (f i ^^^ strm K n i)) (j - m))
/-- the tag behind m bytes is right -/
def tagR (K : Nat → Int32) (n : Int32) (am : Nat) (X : Nat → Nat) (g : Nat → Int32) (m : Nat) : Prop := ∀ j, j < 16 → nI (tagO K n am X m (fun i => byt (g i)) j) = g (m + j)
theorem encF_cg {K K' f f' : Nat → Int32} {n : Int32} {am m : Nat} {X X' : Nat → Nat} (hk : ∀ i, i < 32 → K i = K' i) (hx : ∀ j, j < am → X j = X' j) (hf : ∀ j, j < m → f j = f' j) (j : Nat) : encF K n am X f m j = encF K' n am X' f' m j := by
  unfold encF
  by_cases h : j < m
  · rw [if_pos h, if_pos h, hf j h, strm_congr hk]
  · rw [if_neg h, if_neg h, tagO_cg hk hx (fun i hi => by rw [hf i hi, strm_congr hk])]
theorem tagR_cg {K K' g g' : Nat → Int32} {n : Int32} {am m : Nat} {X X' : Nat → Nat} (hk : ∀ i, i < 32 → K i = K' i) (hx : ∀ j, j < am → X j = X' j) (hg : ∀ j, j < m + 16 → g j = g' j) : tagR K n am X g m ↔ tagR K' n am X' g' m := by
  unfold tagR
  constructor
  · intro h j hj
    rw [← hg (m + j) (by omega), ← h j hj, tagO_cg hk hx (fun i hi => by rw [hg i (by omega)])]
  · intro h j hj
    rw [hg (m + j) (by omega), ← h j hj, tagO_cg hk hx (fun i hi => by rw [hg i (by omega)])]
theorem byt_xor {x y : Int32} (hx : byt x < 256) (hy : byt y < 256) : byt (x ^^^ y) < 256 := by
  unfold byt at *
  rw [Int32.toBitVec_xor, BitVec.toNat_xor]
  exact Nat.xor_lt_two_pow (n := 8) hx hy
theorem byt_strm (K : Nat → Int32) (n : Int32) (j : Nat) : byt (strm K n j) < 256 := cStr_b _ _ _ _
theorem byt_n {n : Nat} (h : n < 256) : byt (nI n) < 256 := by rw [byt_nI (by omega)]; exact h
theorem byt_enc {K f : Nat → Int32} {n : Int32} {am m : Nat} {X : Nat → Nat} (hf : ∀ j, j < m → byt (f j) < 256) (j : Nat) : byt (encF K n am X f m j) < 256 := by
  unfold encF
  split
  · rename_i h; exact byt_xor (hf j h) (byt_strm _ _ _)
  · exact byt_n (tagO_lt _ _ _ _ _ _ _)
theorem or_xor0 (w a b : Int32) : w ||| (a ^^^ b) = 0 ↔ w = 0 ∧ a = b := by
  constructor
  · intro h
    have h1 : (w ||| (a ^^^ b)).toBitVec = 0#32 := by rw [h]; rfl
    rw [Int32.toBitVec_or, Int32.toBitVec_xor, BitVec.or_eq_zero_iff, BitVec.xor_eq_zero_iff] at h1
    exact ⟨Int32.toBitVec_inj.mp h1.1, Int32.toBitVec_inj.mp h1.2⟩
  · rintro ⟨rfl, rfl⟩
    simp
theorem sl_a {g k : Nat → Int32} {f s : Nat} (h : f ≤ s) (j : Nat) : (if f ≤ j ∧ j < f + (s - f) then (fun i => g (f + i) ^^^ k i) (j - f) else g j) = if f ≤ j ∧ j < s then g j ^^^ k (j - f) else g j := by
  by_cases h1 : f ≤ j ∧ j < s
  · rw [if_pos h1, if_pos (by omega)]
    show g (f + (j - f)) ^^^ _ = _
    rw [show f + (j - f) = j by omega]
  · rw [if_neg h1, if_neg (by omega)]
theorem sl_b {I J2 J3 J4 : Nat → Nat → Int32} {K : Nat → Int32} {n : Int32} {na f s a : Nat} (hfs : f ≤ s) (ha2 : J2 a = I a) (b2 : ∀ j, J2 106 j = if f ≤ j ∧ j < s then I 106 j ^^^ strm K n (j - f) else I 106 j) (m1 : ∀ j, j < 16 → J3 135 j = nI (tagO K n na (fun j => byt (J2 a j)) (s - f) (fun j => byt (J2 106 (f + j))) j)) (m3 : J3 106 = J2 106) (r1 : J4 106 = (fun t => if s ≤ t ∧ t < s + (16 - 0) then J3 135 (0 + (t - s)) else J3 106 t)) (j : Nat) (hj : j < s - f + 16) : J4 106 (f + j) = encF K n na (fun j => byt (I a j)) (fun j => I 106 (f + j)) (s - f) j := by
  rw [r1]
  show (if s ≤ f + j ∧ f + j < s + (16 - 0) then J3 135 (0 + (f + j - s)) else J3 106 (f + j)) = _
  unfold encF
  by_cases h : j < s - f
  · rw [if_neg (by omega), if_pos h, m3, b2, if_pos (by omega), show f + j - f = j by omega]
  · rw [if_pos (by omega), if_neg h, m1 _ (by omega), ha2, show 0 + (f + j - s) = j - (s - f) by omega]
    congr 1
    refine tagO_cg (fun _ _ => rfl) (fun _ _ => rfl) (fun i hi => ?_) _
    rw [b2, if_pos (by omega), show f + i - f = i by omega]
set_option maxHeartbeats 4000000 in
set_option maxRecDepth 100000 in
theorem ok_X0_seal {l : Launch} {a0 : Nat} {D : va_G} {sa : Nat → Nat} {T : Nat → Option hKd} {I : Nat → Nat → Int32} {L : Nat → Nat → Int64} {R : Nat → Nat → Option Nat} {A : Nat → Nat} (xO : isX T R A a0) (hsa : ∀ k, k < 5 → sa k = A (90 + k)) (q nq : Nat) (n : Int32) (hTq : T q = some (.inl (.int, nq))) (hnq : nq < 2 ^ 31) (hnq2 : 32 ≤ nq) (hq : q ≠ 133 ∧ q ≠ 134) (a na a16 : Nat) (hTa : T a = some (.inl (.int, na))) (hna : na < 2 ^ 20) (hna16 : na = 16 * a16) (ha : a ≠ 133 ∧ a ≠ 134 ∧ a ≠ 135 ∧ a ≠ 136 ∧ a ≠ 141 ∧ a ≠ 142) (hba : ∀ j, j < na → byt (I a j) < 256) (f s : Nat) (hs : I 105 1 = nI s) (hfs : f ≤ s) (hs16 : s + 16 ≤ 160) (ha6 : a ≠ 106) (hbx : ∀ j, f ≤ j → j < s → byt (I 106 j) < 256) : hM l a0 D sa yX0_seal cX0_seal 6 none { frames := 4, cells := 0, slots := 0, locals := 100 } [.ref (A 132), .ref (A q), .int n, .ref (A a), .ref (A 105), .int (nI f)] (T, I, L, R, A) (fun r G' => r = none ∧ ∃ I' L', G' = (T, I', L', R, A) ∧ (∀ j, j < s - f + 16 → I' 106 (f + j) = encF (I q) n na (fun j => byt (I a j)) (fun j => I 106 (f + j)) (s - f) j) ∧ (∀ t, t < f → I' 106 t = I 106 t) ∧ I' 105 = upd (I 105) 1 (nI (s + 16)) ∧ fx [105, 106, 133, 134, 135, 136, 141, 142] I I' ∧ fy [138, 139, 140] L L') := by
  refine hM.of (by decide +kernel) (Nat.le_of_ble_eq_true rfl) ?_
  intro z hl h0 hD hS hN C E
  subst hl; subst h0; subst hD; subst hS
  have C : hC z RX0 cX0_seal := C
  have hZ := E.2.2.2.1
  show hX z 0 0 (T, I, L, R, A) [(0, .ref (A 132)), (1, .ref (A q)), (2, .int n), (3, .ref (A a)), (4, .ref (A 105)), (5, .int (nI f))] 0 []
  refine x_aload_n C dX0_seal_0 0 rfl rfl ?_
  refine x_aload_n C dX0_seal_1 1 rfl rfl ?_
  refine x_iload_n C dX0_seal_2 2 rfl rfl ?_
  refine x_callV C (ok_X0_prepare xO hsa q nq n hTq hnq hnq2 hq.1) mv_X0_prepare ml_X0_31 (xO.1 132 _ rfl).1 rfl rfl rfl (Nat.le_of_ble_eq_true rfl) (hrm (rm := { frames := 0, cells := 0, slots := 0, locals := 0 }) hZ ⟨Nat.le_of_ble_eq_true rfl, Nat.le_of_ble_eq_true rfl⟩) (hcs hZ ⟨Nat.le_of_ble_eq_true rfl, Nat.le_of_ble_eq_true rfl⟩) dX0_seal_3 (fun v G' hp => ?_)
  obtain ⟨rfl, J1, rfl, p1, p2⟩ := hp
  show hX z 0 0 (T, J1, L, R, A) [(0, .ref (A 132)), (1, .ref (A q)), (2, .int n), (3, .ref (A a)), (4, .ref (A 105)), (5, .int (nI f))] 6 []
  refine x_aload_n C dX0_seal_6 0 rfl rfl ?_
  refine x_aload C dX0_seal_7 4 rfl ?_
  refine x_getrN C fl_X0_35 (xO.1 105 _ rfl).1 rfl (xO.2.1 105 0 _ rfl) dX0_seal_9 ?_
  refine x_iload C dX0_seal_12 5 rfl ?_
  refine x_aload C dX0_seal_14 4 rfl ?_
  refine x_getiN C fl_X0_40 (xO.1 105 _ rfl).1 rfl dX0_seal_16 ?_
  refine x_eqi (y := nI s) (by rw [p2 105 (by decide)]; exact hs) ?_
  refine x_callV C (ok_X0_turn xO hsa 106 160 f s (I q) n (xO.1 106 _ rfl).1 (by decide) (xO.1 106 _ rfl).2 hfs (by omega) (by decide) p1) mv_X0_turn ml_X0_44 (xO.1 132 _ rfl).1 rfl rfl rfl (Nat.le_of_ble_eq_true rfl) (hrm (rm := { frames := 0, cells := 0, slots := 0, locals := 0 }) hZ ⟨Nat.le_of_ble_eq_true rfl, Nat.le_of_ble_eq_true rfl⟩) (hcs hZ ⟨Nat.le_of_ble_eq_true rfl, Nat.le_of_ble_eq_true rfl⟩) dX0_seal_19 (fun v G' hp => ?_)
  obtain ⟨rfl, J2, rfl, t1, t2, t3⟩ := hp
  have f2 : fx [133, 134, 106] I J2 := (p2.wk (by simp)).tr t3 (by simp)
  have b2 : ∀ j, J2 106 j = if f ≤ j ∧ j < s then I 106 j ^^^ strm (I q) n (j - f) else I 106 j := fun j => by rw [t1, p2 106 (by decide)]; exact sl_a hfs j
  show hX z 0 0 (T, J2, L, R, A) [(0, .ref (A 132)), (1, .ref (A q)), (2, .int n), (3, .ref (A a)), (4, .ref (A 105)), (5, .int (nI f))] 22 []
  refine x_aload_n C dX0_seal_22 0 rfl rfl ?_
  refine x_aload_n C dX0_seal_23 3 rfl rfl ?_
  refine x_aload C dX0_seal_24 4 rfl ?_
  refine x_getrN C fl_X0_35 (xO.1 105 _ rfl).1 rfl (xO.2.1 105 0 _ rfl) dX0_seal_26 ?_
  refine x_iload C dX0_seal_29 5 rfl ?_
  refine x_aload C dX0_seal_31 4 rfl ?_
  refine x_getiN C fl_X0_40 (xO.1 105 _ rfl).1 rfl dX0_seal_33 ?_
  refine x_eqi (y := nI s) (by rw [f2 105 (by decide)]; exact hs) ?_
  refine x_callV C (ok_X0_makeTag xO hsa a na a16 106 160 f s (I q) n hTa hna hna16 (xO.1 106 _ rfl).1 (by decide) hfs (by omega) ha (by decide) (fun j hj => by rw [f2 a (by simp [ha, ha6])]; exact hba j hj) (fun j h1 h2 => by rw [b2 j, if_pos ⟨h1, h2⟩]; exact byt_xor (hbx j h1 h2) (byt_strm _ _ _)) t2) mv_X0_makeTag ml_X0_48 (xO.1 132 _ rfl).1 rfl rfl rfl (Nat.le_of_ble_eq_true rfl) (hrm (rm := { frames := 0, cells := 0, slots := 0, locals := 0 }) hZ ⟨Nat.le_of_ble_eq_true rfl, Nat.le_of_ble_eq_true rfl⟩) (hcs hZ ⟨Nat.le_of_ble_eq_true rfl, Nat.le_of_ble_eq_true rfl⟩) dX0_seal_36 (fun v G' hp => ?_)
  obtain ⟨rfl, J3, L1, rfl, m1, m2, m3, m4⟩ := hp
  show hX z 0 0 (T, J3, L1, R, A) [(0, .ref (A 132)), (1, .ref (A q)), (2, .int n), (3, .ref (A a)), (4, .ref (A 105)), (5, .int (nI f))] 39 []
  refine x_aload C dX0_seal_39 4 rfl ?_
  refine x_aload_n C dX0_seal_41 0 rfl rfl ?_
  refine x_getrN C fl_X0_18 (xO.1 132 _ rfl).1 rfl (xO.2.1 132 2 _ rfl) dX0_seal_42 ?_
  refine x_iconst (v := nI 0) C dX0_seal_45 (by decide +kernel) ?_
  refine x_bipush (v := nI 16) C dX0_seal_46 (by decide +kernel) ?_
  refine x_callV C (ok_X4_putAll 105 106 160 s (xO.1 105 _ rfl).1 (xO.2.1 105 0 _ rfl) (xO.1 106 _ rfl).1 (by decide) (by rw [m3 105 (by decide), f2 105 (by decide)]; exact hs) (by omega) (xO.1 105 _ rfl).2 (xO.1 106 _ rfl).2 (by decide) 135 16 0 16 (xO.1 135 _ rfl).1 (by decide) (by decide) (by decide) (by omega) (by decide) (by decide)) mv_X4_putAll ml_X0_52 (xO.1 105 _ rfl).1 rfl rfl rfl (Nat.le_of_ble_eq_true rfl) (hrm (rm := { frames := 0, cells := 0, slots := 0, locals := 0 }) hZ ⟨Nat.le_of_ble_eq_true rfl, Nat.le_of_ble_eq_true rfl⟩) (hcs hZ ⟨Nat.le_of_ble_eq_true rfl, Nat.le_of_ble_eq_true rfl⟩) dX0_seal_48 (fun v G' hp => ?_)
  obtain ⟨rfl, J4, rfl, r1, r2, r3⟩ := hp
  show hX z 0 0 (T, J4, L1, R, A) [(0, .ref (A 132)), (1, .ref (A q)), (2, .int n), (3, .ref (A a)), (4, .ref (A 105)), (5, .int (nI f))] 51 []
  exact x_vret C E (Nat.le_of_ble_eq_true rfl) (Nat.le_of_ble_eq_true rfl) dX0_seal_51 (⟨rfl, J4, L1, rfl, sl_b hfs (f2 a (by simp [ha, ha6])) b2 m1 (m3 106 (by decide)) r1, fun t ht => by rw [r1]; show (if s ≤ t ∧ t < s + (16 - 0) then _ else J3 106 t) = _; rw [if_neg (by omega), m3 106 (by decide), b2, if_neg (by omega)], by rw [r2, m3 105 (by decide), f2 105 (by decide)], ((f2.wk (by simp)).tr m3 (by simp)).tr r3 (by simp), m4⟩)

theorem at_of {v : Option Value} {f : Nat → Int32} {s k : Nat} (h : (∃ x, x < s ∧ nI k = nI x ∧ v = some (.int (f x))) ∨ ((nI k < 0 ∨ nI s ≤ nI k) ∧ v = some (.int (-1)))) (hk : k < s) (hs : s < 2 ^ 31) : v = some (.int (f k)) := by
  rcases h with ⟨x, h1, h2, h3⟩ | ⟨h, -⟩
  · rw [h3, (nI_eq (by omega) (by omega)).mp h2]
  · exfalso
    rcases h with h | h
    · exact nI_pos (by omega) h
    · have := (nI_leI (by omega) (by omega)).mp h
      omega
theorem op_t {K g : Nat → Int32} {b : Nat → Int32} {n : Int32} {na f e : Nat} {X : Nat → Nat} (hfe : f ≤ e) (hw : ∀ i, i < 16 → nI (tagO K n na X (e - f) (fun i => byt (b (f + i))) i) = b (e + i)) : tagR K n na X (fun j => b (f + j)) (e - f) := fun j hj => by
  show nI (tagO K n na X (e - f) (fun i => byt (b (f + i))) j) = b (f + (e - f + j))
  rw [hw j hj, show f + (e - f + j) = e + j by omega]
theorem op_f {K : Nat → Int32} {b : Nat → Int32} {n : Int32} {na f e : Nat} {X : Nat → Nat} (hfe : f ≤ e) (hw : ¬ ∀ i, i < 16 → nI (tagO K n na X (e - f) (fun i => byt (b (f + i))) i) = b (e + i)) : ¬ tagR K n na X (fun j => b (f + j)) (e - f) := fun h => hw fun i hi => by
  have : nI (tagO K n na X (e - f) (fun i => byt (b (f + i))) i) = b (f + (e - f + i)) := h i hi
  rw [show f + (e - f + i) = e + i by omega] at this
  exact this
theorem ops_s {P : Nat → Prop} {k : Nat} : ((∀ i, i < k → P i) ∧ P k) ↔ ∀ i, i < k + 1 → P i := by
  constructor
  · rintro ⟨h1, h2⟩ i hi
    rcases Nat.lt_or_ge i k with g | g
    · exact h1 i g
    · rw [show i = k by omega]; exact h2
  · exact fun h => ⟨fun i hi => h i (by omega), h k (by omega)⟩
theorem op_b {I K : Nat → Nat → Int32} {q : Nat → Int32} {b2 f e : Nat} (h1 : K b2 = I b2) (h2 : K 106 = I 106) (j : Nat) : (if 0 ≤ j ∧ j < 0 + (e - f - 0) then (fun i => (fun t => if 0 ≤ t ∧ t < 0 + (e - f) then K 106 (f + (t - 0)) else K b2 t) (0 + i) ^^^ q i) (j - 0) else (fun t => if 0 ≤ t ∧ t < 0 + (e - f) then K 106 (f + (t - 0)) else K b2 t) j) = if j < e - f then I 106 (f + j) ^^^ q j else I b2 j := by
  by_cases h : j < e - f
  · rw [if_pos (by omega), if_pos h]
    show (if 0 ≤ 0 + (j - 0) ∧ 0 + (j - 0) < 0 + (e - f) then K 106 (f + (0 + (j - 0) - 0)) else K b2 (0 + (j - 0))) ^^^ q (j - 0) = _
    rw [if_pos (by omega), h2, show 0 + (j - 0) - 0 = j by omega, show j - 0 = j by omega]
  · rw [if_neg (by omega), if_neg h]
    show (if 0 ≤ j ∧ j < 0 + (e - f) then K 106 (f + (j - 0)) else K b2 j) = _
    rw [if_neg (by omega), h1]
set_option maxHeartbeats 4000000 in
set_option maxRecDepth 100000 in
theorem ok_X0_open {l : Launch} {a0 : Nat} {D : va_G} {sa : Nat → Nat} {T : Nat → Option hKd} {I : Nat → Nat → Int32} {L : Nat → Nat → Int64} {R : Nat → Nat → Option Nat} {A : Nat → Nat} (xO : isX T R A a0) (hsa : ∀ k, k < 5 → sa k = A (90 + k)) (q nq : Nat) (n : Int32) (hTq : T q = some (.inl (.int, nq))) (hnq : nq < 2 ^ 31) (hnq2 : 32 ≤ nq) (hq : q ≠ 133 ∧ q ≠ 134) (a na a16 : Nat) (hTa : T a = some (.inl (.int, na))) (hna : na < 2 ^ 20) (hna16 : na = 16 * a16) (ha : a ≠ 133 ∧ a ≠ 134 ∧ a ≠ 135 ∧ a ≠ 136 ∧ a ≠ 141 ∧ a ≠ 142) (hba : ∀ j, j < na → byt (I a j) < 256) (f e s : Nat) (hs : I 105 1 = nI s) (hs160 : s ≤ 160) (hfe : f ≤ e) (hes : e + 16 ≤ s) (ha6 : a ≠ 106) (hbx : ∀ j, f ≤ j → j < e → byt (I 106 j) < 256) (h2 b2 cap2 : Nat) (hT2 : T h2 = some (.inr 4)) (hR2 : R h2 0 = some b2) (hTb2 : T b2 = some (.inl (.int, cap2))) (hcap2 : cap2 < 2 ^ 20) (h20 : a0 ≤ A h2) (hb20 : a0 ≤ A b2) (hn2 : h2 ≠ b2 ∧ h2 ≠ 105 ∧ h2 ≠ 106 ∧ b2 ≠ 105 ∧ b2 ≠ 106) (hn3 : b2 ≠ 132 ∧ b2 ≠ 133 ∧ b2 ≠ 134 ∧ b2 ≠ 135 ∧ b2 ≠ 136 ∧ b2 ≠ 141 ∧ b2 ≠ 142 ∧ h2 ≠ 133 ∧ h2 ≠ 134 ∧ h2 ≠ 135 ∧ h2 ≠ 136 ∧ h2 ≠ 141 ∧ h2 ≠ 142) (hfit : e - f ≤ cap2) : hM l a0 D sa yX0_open cX0_open 10 (some .boolean) { frames := 4, cells := 0, slots := 0, locals := 100 } [.ref (A 132), .ref (A q), .int n, .ref (A a), .ref (A 105), .int (nI f), .int (nI e), .ref (A h2)] (T, I, L, R, A) (fun r G' => ∃ I' L', G' = (T, I', L', R, A) ∧ fy [138, 139, 140] L L' ∧ ((r = some (.int (nI 0)) ∧ ¬ tagR (I q) n na (fun j => byt (I a j)) (fun j => I 106 (f + j)) (e - f) ∧ fx [133, 134, 135, 136, 141, 142] I I') ∨ (r = some (.int (nI 1)) ∧ tagR (I q) n na (fun j => byt (I a j)) (fun j => I 106 (f + j)) (e - f) ∧ (∀ j, I' b2 j = if j < e - f then I 106 (f + j) ^^^ strm (I q) n j else I b2 j) ∧ I' h2 = upd (I h2) 1 (nI (e - f)) ∧ fx [133, 134, 135, 136, 141, 142, h2, b2] I I'))) := by
  refine hM.of (by decide +kernel) (Nat.le_of_ble_eq_true rfl) ?_
  intro z hl h0 hD hS hN C E
  subst hl; subst h0; subst hD; subst hS
  have C : hC z RX0 cX0_open := C
  have hZ := E.2.2.2.1
  show hX z 0 0 (T, I, L, R, A) [(0, .ref (A 132)), (1, .ref (A q)), (2, .int n), (3, .ref (A a)), (4, .ref (A 105)), (5, .int (nI f)), (6, .int (nI e)), (7, .ref (A h2))] 0 []
  refine x_aload_n C dX0_open_0 0 rfl rfl ?_
  refine x_aload_n C dX0_open_1 1 rfl rfl ?_
  refine x_iload_n C dX0_open_2 2 rfl rfl ?_
  refine x_callV C (ok_X0_prepare xO hsa q nq n hTq hnq hnq2 hq.1) mv_X0_prepare ml_X0_31 (xO.1 132 _ rfl).1 rfl rfl rfl (Nat.le_of_ble_eq_true rfl) (hrm (rm := { frames := 0, cells := 0, slots := 0, locals := 0 }) hZ ⟨Nat.le_of_ble_eq_true rfl, Nat.le_of_ble_eq_true rfl⟩) (hcs hZ ⟨Nat.le_of_ble_eq_true rfl, Nat.le_of_ble_eq_true rfl⟩) dX0_open_3 (fun v G' hp => ?_)
  obtain ⟨rfl, J1, rfl, p1, p2⟩ := hp
  show hX z 0 0 (T, J1, L, R, A) [(0, .ref (A 132)), (1, .ref (A q)), (2, .int n), (3, .ref (A a)), (4, .ref (A 105)), (5, .int (nI f)), (6, .int (nI e)), (7, .ref (A h2))] 6 []
  refine x_aload_n C dX0_open_6 0 rfl rfl ?_
  refine x_aload_n C dX0_open_7 3 rfl rfl ?_
  refine x_aload C dX0_open_8 4 rfl ?_
  refine x_getrN C fl_X0_35 (xO.1 105 _ rfl).1 rfl (xO.2.1 105 0 _ rfl) dX0_open_10 ?_
  refine x_iload C dX0_open_13 5 rfl ?_
  refine x_iload C dX0_open_15 6 rfl ?_
  refine x_callV C (ok_X0_makeTag xO hsa a na a16 106 160 f e (I q) n hTa hna hna16 (xO.1 106 _ rfl).1 (by decide) hfe (by omega) ha (by decide) (fun j hj => by rw [p2 a (by simp [ha])]; exact hba j hj) (fun j g1 g2 => by rw [p2 106 (by decide)]; exact hbx j g1 g2) p1) mv_X0_makeTag ml_X0_48 (xO.1 132 _ rfl).1 rfl rfl rfl (Nat.le_of_ble_eq_true rfl) (hrm (rm := { frames := 0, cells := 0, slots := 0, locals := 0 }) hZ ⟨Nat.le_of_ble_eq_true rfl, Nat.le_of_ble_eq_true rfl⟩) (hcs hZ ⟨Nat.le_of_ble_eq_true rfl, Nat.le_of_ble_eq_true rfl⟩) dX0_open_17 (fun v G' hp => ?_)
  obtain ⟨rfl, J2, L1, rfl, m1, m2, m3, m4⟩ := hp
  have f2 : fx [133, 134, 135, 136, 141, 142] I J2 := (p2.wk (by simp)).tr m3 (by simp)
  have g1 : ∀ j, j < 16 → J2 135 j = nI (tagO (I q) n na (fun j => byt (I a j)) (e - f) (fun i => byt (I 106 (f + i))) j) := fun j hj => by rw [m1 j hj, p2 a (by simp [ha]), p2 106 (by decide)]
  show hX z 0 0 (T, J2, L1, R, A) [(0, .ref (A 132)), (1, .ref (A q)), (2, .int n), (3, .ref (A a)), (4, .ref (A 105)), (5, .int (nI f)), (6, .int (nI e)), (7, .ref (A h2))] 20 []
  refine x_iconst (v := nI 0) C dX0_open_20 (by decide +kernel) ?_
  refine x_istore (lv' := [(8, .int (nI 0)), (0, .ref (A 132)), (1, .ref (A q)), (2, .int n), (3, .ref (A a)), (4, .ref (A 105)), (5, .int (nI f)), (6, .int (nI e)), (7, .ref (A h2))]) C dX0_open_21 (Nat.lt_of_lt_of_eq (by decide) hN.symm) rfl ?_
  refine x_iconst (v := nI 0) C dX0_open_23 (by decide +kernel) ?_
  refine x_istore (lv' := [(9, .int (nI 0)), (8, .int (nI 0)), (0, .ref (A 132)), (1, .ref (A q)), (2, .int n), (3, .ref (A a)), (4, .ref (A 105)), (5, .int (nI f)), (6, .int (nI e)), (7, .ref (A h2))]) C dX0_open_24 (Nat.lt_of_lt_of_eq (by decide) hN.symm) rfl ?_
  have L26 : ∀ (fuel_ : Nat) (k : Nat) (wv : Int32), 16 - k < fuel_ → (k ≤ 16) → (wv = 0 ↔ ∀ i, i < k → nI (tagO (I q) n na (fun j => byt (I a j)) (e - f) (fun i => byt (I 106 (f + i))) i) = I 106 (e + i)) → hX z 0 0 (T, J2, L1, R, A) [(9, .int (nI k)), (8, .int wv), (0, .ref (A 132)), (1, .ref (A q)), (2, .int n), (3, .ref (A a)), (4, .ref (A 105)), (5, .int (nI f)), (6, .int (nI e)), (7, .ref (A h2))] 26 [] := by
    intro fuel_
    induction fuel_ with
    | zero => intro k wv hmz; exact absurd hmz (Nat.not_lt_zero _)
    | succ fuel_ ih26 =>
      intro k wv hmz hk hw
      refine x_iload C dX0_open_26 0 rfl ?_
      refine x_bipush (v := nI 16) C dX0_open_28 (by decide +kernel) ?_
      refine x_icmp_geN (tgt := 62) C (by omega) (by omega) dX0_open_30 (by decide) (fun c30 => ?_) (fun c30 => ?_)
      · refine x_iload C dX0_open_62 1 rfl ?_
        refine x_if_eq (tgt := 69) C dX0_open_64 (by decide) (fun c64 => ?_) (fun c64 => ?_)
        · refine x_aload C dX0_open_69 9 rfl ?_
          refine x_iconst (v := nI 0) C dX0_open_71 (by decide +kernel) ?_
          refine x_putiN C fl_X0_40 hT2 h20 rfl dX0_open_72 (fun I1 eI1 => ?_)
          refine x_aload C dX0_open_75 9 rfl ?_
          refine x_aload C dX0_open_77 6 rfl ?_
          refine x_getrN C fl_X0_35 (xO.1 105 _ rfl).1 rfl (xO.2.1 105 0 _ rfl) dX0_open_79 ?_
          refine x_iload C dX0_open_82 7 rfl ?_
          refine x_iload C dX0_open_84 8 rfl ?_
          refine x_callV C (ok_X4_putAll h2 b2 cap2 0 hT2 hR2 hTb2 (by omega) (by rw [eI1, va_up_same]; simp [upd]) (by omega) h20 hb20 hn2.1 106 160 f e (xO.1 106 _ rfl).1 (by decide) hfe (by omega) (by omega) (Ne.symm hn2.2.2.2.2) (Ne.symm hn2.2.2.1)) mv_X4_putAll ml_X0_52 hT2 rfl rfl rfl (Nat.le_of_ble_eq_true rfl) (hrm (rm := { frames := 0, cells := 0, slots := 0, locals := 0 }) hZ ⟨Nat.le_of_ble_eq_true rfl, Nat.le_of_ble_eq_true rfl⟩) (hcs hZ ⟨Nat.le_of_ble_eq_true rfl, Nat.le_of_ble_eq_true rfl⟩) dX0_open_86 (fun v G' hp => ?_)
          obtain ⟨rfl, J4, rfl, r1, r2, r3⟩ := hp
          show hX z 0 0 (T, J4, L1, R, A) [(9, .int (nI k)), (8, .int wv), (0, .ref (A 132)), (1, .ref (A q)), (2, .int n), (3, .ref (A a)), (4, .ref (A 105)), (5, .int (nI f)), (6, .int (nI e)), (7, .ref (A h2))] 89 []
          refine x_aload_n C dX0_open_89 2 rfl rfl ?_
          refine x_aload C dX0_open_90 9 rfl ?_
          refine x_getrN C fl_X0_35 hT2 rfl hR2 dX0_open_92 ?_
          refine x_iconst (v := nI 0) C dX0_open_95 (by decide +kernel) ?_
          refine x_aload C dX0_open_96 9 rfl ?_
          refine x_getiN C fl_X0_40 hT2 rfl dX0_open_98 ?_
          refine x_eqi (y := nI (e - f)) (by rw [r2]; simp [upd]) ?_
          refine x_callV C (ok_X0_turn xO hsa b2 cap2 0 (e - f) (I q) n hTb2 (by omega) hb20 (by omega) (by omega) ⟨hn3.2.1, hn3.2.2.1⟩ (fun c i i1 i2 => by rw [r3 133 (by simp [hn3.2.1.symm, hn3.2.2.2.2.2.2.2.1.symm]), eI1, va_up_other _ _ hn3.2.2.2.2.2.2.2.1.symm]; exact m2 c i i1 i2)) mv_X0_turn ml_X0_44 (xO.1 132 _ rfl).1 rfl rfl rfl (Nat.le_of_ble_eq_true rfl) (hrm (rm := { frames := 0, cells := 0, slots := 0, locals := 0 }) hZ ⟨Nat.le_of_ble_eq_true rfl, Nat.le_of_ble_eq_true rfl⟩) (hcs hZ ⟨Nat.le_of_ble_eq_true rfl, Nat.le_of_ble_eq_true rfl⟩) dX0_open_101 (fun v G' hp => ?_)
          obtain ⟨rfl, J5, rfl, t1, t2, t3⟩ := hp
          show hX z 0 0 (T, J5, L1, R, A) [(9, .int (nI k)), (8, .int wv), (0, .ref (A 132)), (1, .ref (A q)), (2, .int n), (3, .ref (A a)), (4, .ref (A 105)), (5, .int (nI f)), (6, .int (nI e)), (7, .ref (A h2))] 104 []
          refine x_iconst (v := nI 1) C dX0_open_104 (by decide +kernel) ?_
          exact x_zret C E (by first | exact Or.inl rfl | exact Or.inr rfl | assumption) (Nat.le_of_ble_eq_true rfl) (Nat.le_of_ble_eq_true rfl) dX0_open_105 (⟨J5, L1, rfl, m4, Or.inr ⟨rfl, op_t (g := I q) hfe (fun i hi => hw.mp c64 i (by omega)), fun j => by rw [t1, r1]; exact op_b (by rw [eI1, va_up_other _ _ (Ne.symm hn2.1), f2 b2 (by simp [hn3])]) (by rw [eI1, va_up_other _ _ (Ne.symm hn2.2.2.1), f2 106 (by decide)]) j, by rw [t3 h2 (by simp [hn3, hn2.1]), r2, eI1, va_up_same, f2 h2 (by simp [hn3])]; funext j; unfold upd; by_cases hj : j = 1 <;> simp [hj], ((show fx [133, 134, 135, 136, 141, 142, h2, b2] I I1 from by rw [eI1]; exact (f2.wk (by simp)).up (by simp)).tr r3 (by simp)).tr t3 (by simp)⟩⟩)
        · refine x_iconst (v := nI 0) C dX0_open_67 (by decide +kernel) ?_
          exact x_zret C E (by first | exact Or.inl rfl | exact Or.inr rfl | assumption) (Nat.le_of_ble_eq_true rfl) (Nat.le_of_ble_eq_true rfl) dX0_open_68 (⟨J2, L1, rfl, m4, Or.inl ⟨rfl, op_f hfe (fun h => c64 (hw.mpr (fun i hi => h i (by omega)))), f2⟩⟩)
      · refine x_iload C dX0_open_33 1 rfl ?_
        refine x_aload_n C dX0_open_35 2 rfl rfl ?_
        refine x_getrN C fl_X0_18 (xO.1 132 _ rfl).1 rfl (xO.2.1 132 2 _ rfl) dX0_open_36 ?_
        refine x_iload C dX0_open_39 0 rfl ?_
        refine x_ialdN C (xO.1 135 _ rfl).1 (by omega) (by omega) dX0_open_41 ?_
        refine x_eqi (y := nI (tagO (I q) n na (fun j => byt (I a j)) (e - f) (fun i => byt (I 106 (f + i))) k)) (g1 k (by omega)) ?_
        refine x_aload C dX0_open_42 6 rfl ?_
        refine x_iload C dX0_open_44 8 rfl ?_
        refine x_iload C dX0_open_46 0 rfl ?_
        refine x_iaddN C dX0_open_48 ?_
        refine x_callV C (ok_X4_at 105 106 160 s (xO.1 105 _ rfl).1 (xO.2.1 105 0 _ rfl) (xO.1 106 _ rfl).1 (by decide) (by rw [f2 105 (by decide)]; exact hs) hs160 (nI (e + k))) mv_X4_at ml_X0_55 (xO.1 105 _ rfl).1 rfl rfl rfl (Nat.le_of_ble_eq_true rfl) (hrm (rm := { frames := 0, cells := 0, slots := 0, locals := 0 }) hZ ⟨Nat.le_of_ble_eq_true rfl, Nat.le_of_ble_eq_true rfl⟩) (hcs hZ ⟨Nat.le_of_ble_eq_true rfl, Nat.le_of_ble_eq_true rfl⟩) dX0_open_49 (fun v G' hp => ?_)
        obtain ⟨hat, rfl⟩ := hp
        have hav := at_of hat (by omega) (by omega)
        rw [f2 106 (by decide)] at hav
        subst hav
        show hX z 0 0 (T, J2, L1, R, A) [(9, .int (nI k)), (8, .int wv), (0, .ref (A 132)), (1, .ref (A q)), (2, .int n), (3, .ref (A a)), (4, .ref (A 105)), (5, .int (nI f)), (6, .int (nI e)), (7, .ref (A h2))] 52 [.int (I 106 (e + k)), .int (nI (tagO (I q) n na (fun j => byt (I a j)) (e - f) (fun i => byt (I 106 (f + i))) k)), .int wv]
        refine x_ixor C dX0_open_52 ?_
        refine x_ior C dX0_open_53 ?_
        refine x_istore (lv' := [(8, .int (wv ||| ((nI (tagO (I q) n na (fun j => byt (I a j)) (e - f) (fun i => byt (I 106 (f + i))) k)) ^^^ (I 106 (e + k))))), (9, .int (nI k)), (0, .ref (A 132)), (1, .ref (A q)), (2, .int n), (3, .ref (A a)), (4, .ref (A 105)), (5, .int (nI f)), (6, .int (nI e)), (7, .ref (A h2))]) C dX0_open_54 (Nat.lt_of_lt_of_eq (by decide) hN.symm) rfl ?_
        refine x_iinc (v := nI (k + 1)) (lv' := [(9, .int (nI (k + 1))), (8, .int (wv ||| ((nI (tagO (I q) n na (fun j => byt (I a j)) (e - f) (fun i => byt (I 106 (f + i))) k)) ^^^ (I 106 (e + k))))), (0, .ref (A 132)), (1, .ref (A q)), (2, .int n), (3, .ref (A a)), (4, .ref (A 105)), (5, .int (nI f)), (6, .int (nI e)), (7, .ref (A h2))]) C dX0_open_56 1 rfl (nI_inc 1) (Nat.lt_of_lt_of_eq (by decide) hN.symm) rfl ?_
        refine x_goto (tgt := 26) C dX0_open_59 (by decide) ?_
        refine x_sub (lv' := _) [0, 1, 2, 3, 4, 5, 6, 7, 8, 9] rfl ?_
        exact ih26 (k + 1) (wv ||| ((nI (tagO (I q) n na (fun j => byt (I a j)) (e - f) (fun i => byt (I 106 (f + i))) k)) ^^^ (I 106 (e + k)))) (by omega) (by omega) (by rw [or_xor0, hw]; exact ops_s)
  refine x_sub (lv' := _) [0, 1, 2, 3, 4, 5, 6, 7, 8, 9] rfl ?_
  exact L26 _ 0 (nI 0) (Nat.lt_succ_self _) (by omega) ⟨fun _ i hi => absurd hi (Nat.not_lt_zero i), fun _ => nI_0⟩

