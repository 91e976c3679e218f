/-! ===== numbers modulo 2^255 - 19 ===== -/
def sg (w f : Nat → Int) : Nat → Int
  | 0 => 0
  | n + 1 => sg w f n + f n * w n
def P5 : Int := 57896044618658097711785492504343953926634992332820282019728792003956564819949
def mwt (i : Nat) : Int := 65536 ^ i
def cwt (i : Nat) : Int := 2 ^ cvS i
theorem sg_cg {w f g : Nat → Int} : ∀ n, (∀ i, i < n → f i = g i) → sg w f n = sg w g n
  | 0, _ => rfl
  | n + 1, h => by simp only [sg]; rw [sg_cg n (fun i hi => h i (by omega)), h n (by omega)]
theorem sg_add (w f g : Nat → Int) : ∀ n, sg w (fun i => f i + g i) n = sg w f n + sg w g n
  | 0 => rfl
  | n + 1 => by simp only [sg]; rw [sg_add w f g n, Int.add_mul]; omega
theorem sg_sub (w f g : Nat → Int) : ∀ n, sg w (fun i => f i - g i) n = sg w f n - sg w g n
  | 0 => rfl
  | n + 1 => by simp only [sg]; rw [sg_sub w f g n, Int.sub_mul]; omega
theorem sg_sc (w f : Nat → Int) (c : Int) : ∀ n, sg w (fun i => c * f i) n = c * sg w f n
  | 0 => by simp [sg]
  | n + 1 => by simp only [sg]; rw [sg_sc w f c n, Int.mul_add, Int.mul_assoc]
theorem sg_up (w f : Nat → Int) (k : Nat) (v : Int) : ∀ n, k < n → sg w (va_up f k v) n = sg w f n + (v - f k) * w k
  | 0, h => by omega
  | n + 1, h => by
    simp only [sg]
    by_cases e : n = k
    · subst e
      rw [sg_cg (f := va_up f n v) (g := f) n (fun i hi => by unfold va_up; rw [if_neg (by omega)])]
      rw [show va_up f n v n = v by unfold va_up; rw [if_pos rfl]]
      grind
    · rw [sg_up w f k v n (by omega), show va_up f k v n = f n by unfold va_up; rw [if_neg e]]; omega
theorem mwt_s (n : Nat) : mwt (n + 1) = mwt n * 65536 := by unfold mwt; rw [Int.pow_succ]
theorem mwt_a (a b : Nat) : mwt (a + b) = mwt a * mwt b := by unfold mwt; rw [Int.pow_add]
theorem mcar_s (f : Nat → Int) : ∀ n, sg mwt f n = sg mwt (mG f) n + mOv f n * mwt n
  | 0 => by simp [sg, mOv]
  | n + 1 => by
    simp only [sg]
    rw [mcar_s f n, mwt_s]
    have h : f n + mOv f n = mG f n + 65536 * mOv f (n + 1) := by simp only [mG, mOv]; omega
    have : f n = mG f n + 65536 * mOv f (n + 1) - mOv f n := by omega
    rw [this]; grind
theorem mG_sg (f : Nat → Int) : ∀ n, 0 ≤ sg mwt (mG f) n ∧ sg mwt (mG f) n < mwt n
  | 0 => by simp [sg, mwt]
  | n + 1 => by
    have ih := mG_sg f n
    have hg : 0 ≤ mG f n ∧ mG f n < 65536 := by unfold mG; omega
    simp only [sg]; rw [mwt_s]
    have h1 : 0 ≤ mG f n * mwt n := Int.mul_nonneg hg.1 (by omega)
    have h2 : (mG f n + 1) * mwt n ≤ 65536 * mwt n := Int.mul_le_mul_of_nonneg_right (by omega) (by omega)
    rw [Int.add_mul] at h2; omega
theorem mCi_sg (f : Nat → Int) : sg mwt (mCi f 16) 16 = sg mwt f 16 - mOv f 16 * (2 * P5) := by
  rw [mcar_s f 16]
  rw [sg_cg (f := mCi f 16) (g := va_up (mG f) 0 (mG f 0 + 38 * mOv f 16)) 16 (fun i hi => by
    unfold mCi va_up; rw [if_pos hi]; by_cases e : i = 0
    · rw [if_pos ⟨rfl, e⟩, if_pos e]
    · rw [if_neg (fun h => e h.2), if_neg e])]
  rw [sg_up _ _ _ _ 16 (by omega)]
  rw [show mwt 16 = 2 * P5 + 38 by decide +kernel, show mwt 0 = 1 from rfl]
  grind
theorem mod_k {a b k : Int} (h : a = b + k * P5) : a % P5 = b % P5 := by rw [h, Int.add_mul_emod_self_right]
def mv (f : Nat → Int) : Int := sg mwt f 16 % P5
def cv (f : Nat → Int) : Int := sg cwt f 10 % P5
theorem mv_car (f : Nat → Int) : mv (mCi f 16) = mv f := mod_k (k := -(2 * mOv f 16)) (by rw [mCi_sg]; grind)
theorem mRow_sg (A B : Nat → Int) (i : Nat) (hi : i < 16) (p : Nat → Int) : ∀ j, j ≤ 16 → sg mwt (mRow A B i p j) 31 = sg mwt p 31 + A i * mwt i * sg mwt B j
  | 0, _ => by simp [mRow, sg]
  | j + 1, hj => by
    rw [show mRow A B i p (j + 1) = va_up (mRow A B i p j) (i + j) (mRow A B i p j (i + j) + A i * B j) from rfl, show sg mwt B (j + 1) = sg mwt B j + B j * mwt j from rfl]
    rw [sg_up _ _ _ _ 31 (by omega), mRow_sg A B i hi p j (by omega), mwt_a]
    grind
theorem mAll_sg (A B : Nat → Int) : ∀ i, i ≤ 16 → sg mwt (mAll A B i) 31 = sg mwt A i * sg mwt B 16
  | 0, _ => by
    simp only [mAll]
    rw [show sg mwt A 0 = 0 from rfl, Int.zero_mul]; decide +kernel
  | i + 1, hi => by
    rw [show mAll A B (i + 1) = mRow A B i (mAll A B i) 16 from rfl, show sg mwt A (i + 1) = sg mwt A i + A i * mwt i from rfl]
    rw [mRow_sg A B i (by omega) _ 16 (Nat.le_refl _), mAll_sg A B i (by omega)]; grind
theorem sg_app (f : Nat → Int) (a : Nat) : ∀ n, sg mwt f (a + n) = sg mwt f a + mwt a * sg mwt (fun k => f (a + k)) n
  | 0 => by simp [sg]
  | n + 1 => by
    rw [← Nat.add_assoc]; simp only [sg]; rw [sg_app f a n, mwt_a]; grind
theorem mFo_sg (p : Nat → Int) : sg mwt (mFo p) 16 = sg mwt p 31 - 2 * P5 * sg mwt (fun k => p (16 + k)) 15 := by
  rw [show (31 : Nat) = 16 + 15 from rfl, sg_app p 16 15]
  rw [sg_cg (f := mFo p) (g := fun k => p k + (if k < 15 then 38 * p (16 + k) else 0)) 16 (fun i hi => by
    unfold mFo; by_cases e : i < 15
    · rw [if_pos e, if_pos e, Nat.add_comm i 16]
    · rw [if_neg e, if_neg e, Int.add_zero])]
  rw [sg_add]
  rw [show sg mwt (fun k => if k < 15 then 38 * p (16 + k) else 0) 16 = 38 * sg mwt (fun k => p (16 + k)) 15 by
    show sg mwt _ 15 + (if 15 < 15 then 38 * p (16 + 15) else 0) * _ = _
    rw [if_neg (by omega), sg_cg (g := fun k => 38 * p (16 + k)) 15 (fun i hi => by rw [if_pos hi]), sg_sc]; omega]
  rw [show mwt 16 = 2 * P5 + 38 by decide +kernel]
  grind
theorem mv_tm (A B r : Nat → Int) : mv (mTm A B r) = mv A * mv B % P5 := by
  unfold mTm
  rw [mv_car, mv_car]
  unfold mv
  rw [sg_cg (f := mQv A B r) (g := mFo (mAll A B 16)) 16 (fun i hi => by unfold mQv; rw [if_pos hi]), mFo_sg, mAll_sg A B 16 (Nat.le_refl _)]
  rw [← Int.mul_emod]
  exact mod_k (k := -(2 * sg mwt (fun k => mAll A B 16 (16 + k)) 15)) (by grind)
/-- limbs behind a product -/
def mN (A : Nat → Int) : Prop := ∀ i, i < 16 → (if i = 0 then -38 else 0) ≤ A i ∧ A i ≤ if i = 0 then 65573 else 65535
theorem mOv_16 {f : Nat → Int} {c : Int} (h0 : -c ≤ f 0 ∧ f 0 ≤ c) (hc : c ≤ 2 ^ 42) (h : ∀ i, 0 < i → i < 16 → 0 ≤ f i ∧ f i < 65536) : ∀ i, 0 < i → i ≤ 16 → (if i = 1 then -67108864 else if i = 2 then -1025 else -1) ≤ mOv f i ∧ mOv f i ≤ (if i = 1 then 67108864 else if i = 2 then 1025 else 1)
  | 0, h0, _ => by omega
  | 1, _, _ => by simp [mOv]; omega
  | 2, _, h2 => by
    have ih := mOv_16 h0 hc h 1 (by omega) (by omega)
    have := h 1 (by omega) (by omega)
    simp at ih ⊢
    rw [show mOv f 2 = (f 1 + mOv f 1) / 65536 from rfl]; omega
  | i + 3, _, h2 => by
    have ih := mOv_16 h0 hc h (i + 2) (by omega) (by omega)
    have := h (i + 2) (by omega) (by omega)
    rw [show mOv f (i + 3) = (f (i + 2) + mOv f (i + 2)) / 65536 from rfl]
    rw [if_neg (by omega), if_neg (by omega), if_neg (by omega), if_neg (by omega)]
    by_cases e : i = 0
    · subst e; simp at ih this ⊢; omega
    · rw [if_neg (by omega), if_neg (by omega), if_neg (by omega), if_neg (by omega)] at ih; omega
theorem mCi_i {f : Nat → Int} {i : Nat} (hi : i < 16) : mCi f 16 i = if i = 0 then mG f 0 + 38 * mOv f 16 else mG f i := by
  unfold mCi; rw [if_pos hi]; by_cases e : i = 0
  · rw [if_pos ⟨rfl, e⟩, if_pos e]
  · rw [if_neg (fun h => e h.2), if_neg e]
theorem mCi_N {f : Nat → Int} {c : Int} (h0 : -c ≤ f 0 ∧ f 0 ≤ c) (hc : c ≤ 2 ^ 42) (h : ∀ i, 0 < i → i < 16 → 0 ≤ f i ∧ f i < 65536) : mN (mCi f 16) := by
  intro i hi
  have h1 := mOv_16 h0 hc h 16 (by omega) (by omega)
  simp at h1
  rw [mCi_i hi]
  have hg : ∀ j, 0 ≤ mG f j ∧ mG f j < 65536 := fun j => by unfold mG; omega
  have g0 := hg 0; have gi := hg i
  by_cases e : i = 0
  · rw [if_pos e, if_pos e, if_pos e]; omega
  · rw [if_neg e, if_neg e, if_neg e]; omega
theorem mTm_N {A B : Nat → Int} (r : Nat → Int) (hq : ∀ i, i < 16 → -2 ^ 50 ≤ mQv A B r i ∧ mQv A B r i ≤ 2 ^ 50) : mN (mTm A B r) := by
  have hov : ∀ i, i ≤ 16 → -2 ^ 35 ≤ mOv (mQv A B r) i ∧ mOv (mQv A B r) i ≤ 2 ^ 35 := by
    intro i
    induction i with
    | zero => intro _; simp [mOv]
    | succ i ih => intro hi; have := ih (by omega); have := hq i (by omega); simp only [mOv]; omega
  have h16 := hov 16 (Nat.le_refl _)
  have hg : ∀ j, 0 ≤ mG (mQv A B r) j ∧ mG (mQv A B r) j < 65536 := fun j => by unfold mG; omega
  have g0 := hg 0
  unfold mTm
  refine mCi_N (c := 2 ^ 42) ?_ (Int.le_refl _) ?_
  · rw [mCi_i (by omega), if_pos rfl]; omega
  · intro i h1 h2; rw [mCi_i h2, if_neg (by omega)]; exact hg i
theorem cwt_0 : cwt 0 = 1 := by decide +kernel
theorem cwt_1 : cwt 1 = 67108864 := by decide +kernel
theorem cwt_2 : cwt 2 = 2251799813685248 := by decide +kernel
theorem cwt_3 : cwt 3 = 151115727451828646838272 := by decide +kernel
theorem cwt_4 : cwt 4 = 5070602400912917605986812821504 := by decide +kernel
theorem cwt_5 : cwt 5 = 340282366920938463463374607431768211456 := by decide +kernel
theorem cwt_6 : cwt 6 = 11417981541647679048466287755595961091061972992 := by decide +kernel
theorem cwt_7 : cwt 7 = 766247770432944429179173513575154591809369561091801088 := by decide +kernel
theorem cwt_8 : cwt 8 = 25711008708143844408671393477458601640355247900524685364822016 := by decide +kernel
theorem cwt_9 : cwt 9 = 1725436586697640946858688965569256363112777243042596638790631055949824 := by decide +kernel
def cvK (F G : Nat → Int) : Int := F 1 * G 9 * 2 + F 2 * G 8 * 1 + F 2 * G 9 * 67108864 + F 3 * G 7 * 2 + F 3 * G 8 * 67108864 + F 3 * G 9 * 4503599627370496 + F 4 * G 6 * 1 + F 4 * G 7 * 67108864 + F 4 * G 8 * 2251799813685248 + F 4 * G 9 * 151115727451828646838272 + F 5 * G 5 * 2 + F 5 * G 6 * 67108864 + F 5 * G 7 * 4503599627370496 + F 5 * G 8 * 151115727451828646838272 + F 5 * G 9 * 10141204801825835211973625643008 + F 6 * G 4 * 1 + F 6 * G 5 * 67108864 + F 6 * G 6 * 2251799813685248 + F 6 * G 7 * 151115727451828646838272 + F 6 * G 8 * 5070602400912917605986812821504 + F 6 * G 9 * 340282366920938463463374607431768211456 + F 7 * G 3 * 2 + F 7 * G 4 * 67108864 + F 7 * G 5 * 4503599627370496 + F 7 * G 6 * 151115727451828646838272 + F 7 * G 7 * 10141204801825835211973625643008 + F 7 * G 8 * 340282366920938463463374607431768211456 + F 7 * G 9 * 22835963083295358096932575511191922182123945984 + F 8 * G 2 * 1 + F 8 * G 3 * 67108864 + F 8 * G 4 * 2251799813685248 + F 8 * G 5 * 151115727451828646838272 + F 8 * G 6 * 5070602400912917605986812821504 + F 8 * G 7 * 340282366920938463463374607431768211456 + F 8 * G 8 * 11417981541647679048466287755595961091061972992 + F 8 * G 9 * 766247770432944429179173513575154591809369561091801088 + F 9 * G 1 * 2 + F 9 * G 2 * 67108864 + F 9 * G 3 * 4503599627370496 + F 9 * G 4 * 151115727451828646838272 + F 9 * G 5 * 10141204801825835211973625643008 + F 9 * G 6 * 340282366920938463463374607431768211456 + F 9 * G 7 * 22835963083295358096932575511191922182123945984 + F 9 * G 8 * 766247770432944429179173513575154591809369561091801088 + F 9 * G 9 * 51422017416287688817342786954917203280710495801049370729644032
theorem cvMul_sg (F G : Nat → Int) : sg cwt (cvMul F G) 10 = sg cwt F 10 * sg cwt G 10 - P5 * cvK F G := by
  simp only [sg, cwt_0, cwt_1, cwt_2, cwt_3, cwt_4, cwt_5, cwt_6, cwt_7, cwt_8, cwt_9, cvMul, P5, cvK]
  generalize F 0 = f0; generalize F 1 = f1; generalize F 2 = f2; generalize F 3 = f3; generalize F 4 = f4; generalize F 5 = f5; generalize F 6 = f6; generalize F 7 = f7; generalize F 8 = f8; generalize F 9 = f9
  generalize G 0 = g0; generalize G 1 = g1; generalize G 2 = g2; generalize G 3 = g3; generalize G 4 = g4; generalize G 5 = g5; generalize G 6 = g6; generalize G 7 = g7; generalize G 8 = g8; generalize G 9 = g9
  grind
theorem cwt_s (n : Nat) : cwt (n + 1) = cwt n * 2 ^ wd n := by unfold cwt; rw [cvS_s, Int.pow_add]
theorem ccar_s (f : Nat → Int) : ∀ n, sg cwt f n = sg cwt (cvG f) n + cvOv f n * cwt n
  | 0 => by simp [sg, cvOv]
  | n + 1 => by
    simp only [sg]
    rw [ccar_s f n, cwt_s]
    have h : f n + cvOv f n = cvG f n + 2 ^ wd n * cvOv f (n + 1) := by simp only [cvG, cvOv]; rcases wd_or n with e | e <;> rw [e.1] <;> omega
    have : f n = cvG f n + 2 ^ wd n * cvOv f (n + 1) - cvOv f n := by omega
    rw [this]; grind
theorem cvCar_sg (f : Nat → Int) : sg cwt (cvCar f) 10 = sg cwt f 10 - cvOv f 10 * P5 := by
  rw [ccar_s f 10]
  rw [sg_cg (f := cvCar f) (g := va_up (va_up (cvG f) 0 ((cvG f 0 + 19 * cvOv f 10) % 2 ^ wd 0)) 1 (cvG f 1 + (cvG f 0 + 19 * cvOv f 10) / 2 ^ wd 0)) 10 (fun i hi => by
    unfold cvCar va_up; by_cases e : i = 0
    · rw [if_pos e, if_neg (by omega), if_pos e]
    · rw [if_neg e]; by_cases e1 : i = 1
      · rw [if_pos e1, if_pos e1]
      · rw [if_neg e1, if_neg e1, if_neg e])]
  rw [sg_up _ _ _ _ 10 (by omega), sg_up _ _ _ _ 10 (by omega)]
  rw [show cwt 10 = P5 + 19 by decide +kernel, show cwt 0 = 1 from rfl, show cwt 1 = 67108864 by decide +kernel, show wd 0 = 26 from rfl]
  rw [show va_up (cvG f) 0 ((cvG f 0 + 19 * cvOv f 10) % 2 ^ 26) 1 = cvG f 1 from rfl]
  have h : (cvG f 0 + 19 * cvOv f 10) = 67108864 * ((cvG f 0 + 19 * cvOv f 10) / 2 ^ 26) + (cvG f 0 + 19 * cvOv f 10) % 2 ^ 26 := by omega
  rw [Int.mul_add]; omega
theorem cv_car (f : Nat → Int) : cv (cvCar f) = cv f := mod_k (k := -cvOv f 10) (by rw [cvCar_sg]; grind)
theorem cv_mul (F G : Nat → Int) : cv (fMul F G) = cv F * cv G % P5 := by
  unfold fMul; rw [cv_car]; unfold cv; rw [cvMul_sg, ← Int.mul_emod]
  exact mod_k (k := -cvK F G) (by grind)
theorem cv_add (F G : Nat → Int) : cv (fAdd F G) = (cv F + cv G) % P5 := by
  unfold cv; rw [show fAdd F G = fun i => F i + G i from rfl, sg_add, ← Int.add_emod]
theorem cv_sub (F G : Nat → Int) : cv (fSub F G) = (cv F - cv G) % P5 := by
  unfold cv; rw [show fSub F G = fun i => F i - G i from rfl, sg_sub, ← Int.sub_emod]
theorem cv_sc (F : Nat → Int) : cv (fSc F) = 121665 * cv F % P5 := by
  unfold fSc; rw [cv_car]; unfold cv; rw [sg_sc]
  rw [Int.mul_emod 121665 (sg cwt F 10 % P5), Int.emod_emod_of_dvd _ (Int.dvd_refl _), ← Int.mul_emod]
theorem chain_sg (f c : Nat → Int) (h : ∀ i, c (i + 1) = (f i + c i) / 2 ^ wd i) : ∀ n, sg cwt f n + c 0 = sg cwt (fun i => (f i + c i) % 2 ^ wd i) n + c n * cwt n ∧ 0 ≤ sg cwt (fun i => (f i + c i) % 2 ^ wd i) n ∧ sg cwt (fun i => (f i + c i) % 2 ^ wd i) n < cwt n
  | 0 => by simp [sg, cwt, cvS]
  | n + 1 => by
    obtain ⟨ih, h0, h1⟩ := chain_sg f c h n
    have hw : (0 : Int) < 2 ^ wd n := Int.pow_pos (by omega)
    have hm := Int.emod_nonneg (f n + c n) (Int.ne_of_gt hw)
    have hl := Int.emod_lt_of_pos (f n + c n) hw
    have hc : 0 ≤ cwt n := by omega
    have e : (f n + c n) = (f n + c n) % 2 ^ wd n + 2 ^ wd n * c (n + 1) := by rw [h]; exact (Int.emod_add_mul_ediv _ _).symm
    simp only [sg]
    rw [cwt_s]
    generalize hS : sg cwt (fun i => (f i + c i) % 2 ^ wd i) n = S at ih h0 h1 ⊢
    generalize hr : (f n + c n) % 2 ^ wd n = r at e hm hl ⊢
    have h2 : 0 ≤ r * cwt n := Int.mul_nonneg hm hc
    have h3 : (r + 1) * cwt n ≤ 2 ^ wd n * cwt n := Int.mul_le_mul_of_nonneg_right (by omega) hc
    refine ⟨?_, by omega, ?_⟩
    · have e2 : f n = r + 2 ^ wd n * c (n + 1) - c n := by omega
      rw [e2]; clear e h hS hr; grind
    · rw [Int.add_mul] at h3; rw [Int.mul_comm (cwt n)]; omega
theorem cvP_sg (f : Nat → Int) : ∀ n, (cvP f n : Int) = sg cwt (fun i => (f i + cvO2 f i) % 2 ^ wd i) n
  | 0 => rfl
  | n + 1 => by
    simp only [cvP, sg]
    rw [Int.natCast_add, cvP_sg f n, Int.natCast_mul, cvE_i, Int.natCast_pow]; rfl
theorem pk_v {f : Nat → Int} (h0 : 0 ≤ sg cwt f 10) (h1 : sg cwt f 10 < 2 * P5) : (cvP f 10 : Int) = sg cwt f 10 % P5 := by
  have hq := chain_sg f (cvQ f) (fun _ => rfl) 10
  have ho := chain_sg f (cvO2 f) (fun _ => rfl) 10
  rw [← cvP_sg] at ho
  rw [show cwt 10 = P5 + 19 by decide +kernel] at hq ho
  rw [show cvQ f 0 = 19 from rfl] at hq
  rw [show cvO2 f 0 = cvQ f 10 * 19 from rfl] at ho
  generalize sg cwt (fun i => (f i + cvQ f i) % 2 ^ wd i) 10 = r at hq
  generalize sg cwt f 10 = v at *
  generalize cvQ f 10 = q at *
  generalize cvO2 f 10 = q2 at *
  generalize (cvP f 10 : Int) = w at *
  unfold P5 at *
  by_cases c : v < 57896044618658097711785492504343953926634992332820282019728792003956564819949
  · have : q = 0 := by omega
    subst this; omega
  · have : q = 1 := by omega
    subst this; omega
theorem cvB_sg {f : Nat → Int} (h : cvB f) : -2 ^ 250 ≤ sg cwt f 10 ∧ sg cwt f 10 ≤ 2 ^ 255 + 2 ^ 250 := by
  have h0 := h 0 (by omega); have h1 := h 1 (by omega); have h2 := h 2 (by omega); have h3 := h 3 (by omega); have h4 := h 4 (by omega)
  have h5 := h 5 (by omega); have h6 := h 6 (by omega); have h7 := h 7 (by omega); have h8 := h 8 (by omega); have h9 := h 9 (by omega)
  simp at h0 h1 h2 h3 h4 h5 h6 h7 h8 h9
  simp only [sg, cwt_0, cwt_1, cwt_2, cwt_3, cwt_4, cwt_5, cwt_6, cwt_7, cwt_8, cwt_9]
  omega
theorem pk_cv {f : Nat → Int} (h : cvB f) : (cvP (cvCar f) 10 : Int) = cv f := by
  have hb := cvB_sg h
  have hc := chain_sg f (cvOv f) (fun _ => rfl) 10
  rw [show (fun i => (f i + cvOv f i) % 2 ^ wd i) = cvG f from rfl, show cvOv f 0 = 0 from rfl, show cwt 10 = P5 + 19 by decide +kernel] at hc
  have hs := cvCar_sg f
  rw [pk_v, ← cv_car]; rfl
  all_goals
    rw [hs]
    generalize sg cwt (cvG f) 10 = r at *
    generalize sg cwt f 10 = v at *
    generalize cvOv f 10 = q at *
    unfold P5 at *
    have : q = -1 ∨ q = 0 ∨ q = 1 := by omega
    rcases this with e | e | e <;> subst e <;> omega
/-! the model's way to bytes -/
theorem mCi_full {f : Nat → Int} (h : mN f) : ∀ i, i < 16 → 0 ≤ mCi f 16 i ∧ mCi f 16 i < 65536 := by
  have h0 := h 0 (by omega)
  simp at h0
  have ho := mOv_16 (f := f) (c := 65573) (by omega) (by decide) (fun i h1 h2 => by have := h i h2; rw [if_neg (by omega), if_neg (by omega)] at this; omega) 16 (by omega) (by omega)
  simp at ho
  have hc := mcar_s f 16
  have hb : -38 ≤ sg mwt f 16 ∧ sg mwt f 16 ≤ 2 ^ 256 + 37 := by
    have g : ∀ n, n < 16 → -38 ≤ sg mwt f (n + 1) ∧ sg mwt f (n + 1) ≤ mwt (n + 1) + 37 := by
      intro n
      induction n with
      | zero => intro _; simp [sg, mwt]; omega
      | succ n ih =>
        intro hn
        have ih := ih (by omega)
        have hf := h (n + 1) hn
        rw [if_neg (by omega), if_neg (by omega)] at hf
        have hm : 0 ≤ mwt (n + 1) := by unfold mwt; exact Int.pow_nonneg (by omega)
        have h1 : 0 ≤ f (n + 1) * mwt (n + 1) := Int.mul_nonneg hf.1 hm
        have h2 : f (n + 1) * mwt (n + 1) ≤ 65535 * mwt (n + 1) := Int.mul_le_mul_of_nonneg_right hf.2 hm
        rw [show sg mwt f (n + 1 + 1) = sg mwt f (n + 1) + f (n + 1) * mwt (n + 1) from rfl, mwt_s (n + 1)]
        omega
    have := g 15 (by omega)
    rw [show mwt (15 + 1) = 2 ^ 256 by decide +kernel] at this; exact this
  have hgb : ∀ j, 0 ≤ mG f j ∧ mG f j < 65536 := fun j => by unfold mG; omega
  have h3 : sg mwt (mG f) 16 = mG f 0 + 65536 * sg mwt (fun k => mG f (1 + k)) 15 := by
    rw [show (16 : Nat) = 1 + 15 from rfl, sg_app]; rw [show mwt 1 = 65536 by decide, show sg mwt (mG f) 1 = mG f 0 by simp [sg, mwt]]
  have h4 : ∀ n, 0 ≤ sg mwt (fun k => mG f (1 + k)) n ∧ sg mwt (fun k => mG f (1 + k)) n < mwt n := by
    intro n
    induction n with
    | zero => simp [sg, mwt]
    | succ n ih =>
      have hm : 0 ≤ mwt n := by unfold mwt; exact Int.pow_nonneg (by omega)
      have h1 : 0 ≤ mG f (1 + n) * mwt n := Int.mul_nonneg (hgb _).1 hm
      have h2 : (mG f (1 + n) + 1) * mwt n ≤ 65536 * mwt n := Int.mul_le_mul_of_nonneg_right (by have := hgb (1 + n); omega) hm
      rw [Int.add_mul] at h2
      rw [show sg mwt (fun k => mG f (1 + k)) (n + 1) = sg mwt (fun k => mG f (1 + k)) n + mG f (1 + n) * mwt n from rfl, mwt_s]
      omega
  have h5 := h4 15
  rw [show mwt 15 = 2 ^ 240 by decide +kernel] at h5
  rw [show mwt 16 = 2 ^ 256 by decide +kernel] at hc
  intro i hi
  rw [mCi_i hi]
  by_cases e : i = 0
  · rw [if_pos e]
    have g0 := hgb 0
    generalize sg mwt (fun k => mG f (1 + k)) 15 = r at *
    generalize sg mwt (mG f) 16 = s at *
    generalize sg mwt f 16 = t at *
    have : mOv f 16 = -1 ∨ mOv f 16 = 0 ∨ mOv f 16 = 1 := by omega
    rcases this with e | e | e <;> rw [e] at hc ⊢ <;> omega
  · rw [if_neg e]; exact hgb i
/-- the limbs of 2^255 - 19 -/
def pl (i : Nat) : Int := if i = 0 then 65517 else if i = 15 then 32767 else 65535
def mSb (g : Nat → Int) (i : Nat) : Int := g i - pl i
def mRd (g : Nat → Int) : Nat → Int := if mOv (mSb g) 16 = 0 then mG (mSb g) else g
def mIn (g : Nat → Int) : Prop := ∀ i, i < 16 → 0 ≤ g i ∧ g i < 65536
theorem mIn_sg {g : Nat → Int} (h : mIn g) : ∀ n, n ≤ 16 → 0 ≤ sg mwt g n ∧ sg mwt g n < mwt n
  | 0, _ => by simp [sg, mwt]
  | n + 1, hn => by
    have ih := mIn_sg h n (by omega)
    have hg := h n (by omega)
    have hm : 0 ≤ mwt n := by omega
    have h1 : 0 ≤ g n * mwt n := Int.mul_nonneg hg.1 hm
    have h2 : (g n + 1) * mwt n ≤ 65536 * mwt n := Int.mul_le_mul_of_nonneg_right (by omega) hm
    rw [Int.add_mul] at h2
    simp only [sg]; rw [mwt_s]; omega
theorem mRd_in {g : Nat → Int} (h : mIn g) : mIn (mRd g) := by
  unfold mRd; split
  · intro i _; unfold mG; omega
  · exact h
theorem mRd_sg {g : Nat → Int} (h : mIn g) : sg mwt (mRd g) 16 = if sg mwt g 16 < P5 then sg mwt g 16 else sg mwt g 16 - P5 := by
  have h1 := mIn_sg h 16 (Nat.le_refl _)
  have h2 := mcar_s (mSb g) 16
  have h3 := mG_sg (mSb g) 16
  rw [show sg mwt (mSb g) 16 = sg mwt g 16 - P5 by unfold P5; rw [show mSb g = fun i => g i - pl i from rfl, sg_sub]; congr 1] at h2
  rw [show mwt 16 = 2 ^ 256 by decide +kernel] at *
  unfold mRd
  by_cases c : mOv (mSb g) 16 = 0
  · rw [if_pos c]; rw [c] at h2; rw [if_neg (by omega)]; omega
  · rw [if_neg c, if_pos (by
      generalize mOv (mSb g) 16 = q at *
      generalize sg mwt (mG (mSb g)) 16 = r at *
      generalize sg mwt g 16 = v at *
      unfold P5 at *
      omega)]
theorem mRd2 {g : Nat → Int} (h : mIn g) : sg mwt (mRd (mRd g)) 16 = sg mwt g 16 % P5 := by
  have h1 := mIn_sg h 16 (Nat.le_refl _)
  rw [mRd_sg (mRd_in h), mRd_sg h]
  rw [show mwt 16 = 2 ^ 256 by decide +kernel] at h1
  generalize sg mwt g 16 = v at *
  unfold P5 at *
  by_cases c : v < 57896044618658097711785492504343953926634992332820282019728792003956564819949
  · rw [if_pos c, if_pos c]; omega
  · rw [if_neg c]; by_cases c2 : v - 57896044618658097711785492504343953926634992332820282019728792003956564819949 < 57896044618658097711785492504343953926634992332820282019728792003956564819949
    · rw [if_pos c2]; omega
    · rw [if_neg c2]; omega
theorem sh_in {g : Nat → Int} (h : mIn g) (a : Nat) : ∀ n, a + n ≤ 16 → 0 ≤ sg mwt (fun k => g (a + k)) n
  | 0, _ => by simp [sg]
  | n + 1, hn => by
    have ih := sh_in h a n (by omega)
    have hm : 0 ≤ mwt n := by unfold mwt; exact Int.pow_nonneg (by omega)
    have h1 : 0 ≤ g (a + n) * mwt n := Int.mul_nonneg (h (a + n) (by omega)).1 hm
    simp only [sg]; omega
theorem dig {g : Nat → Int} (h : mIn g) {i : Nat} (hi : i < 16) : sg mwt g 16 / mwt i % 65536 = g i := by
  obtain ⟨m, hm⟩ : ∃ m, 16 = i + (1 + m) := ⟨15 - i, by omega⟩
  have hs : sg mwt g 16 = sg mwt g i + mwt i * sg mwt (fun k => g (i + k)) (1 + m) := by rw [hm]; exact sg_app g i (1 + m)
  have h1 := mIn_sg h i (by omega)
  have h2 : sg mwt (fun k => g (i + k)) (1 + m) = g i + 65536 * sg mwt (fun k => g (i + (1 + k))) m := by
    rw [sg_app]; rw [show mwt 1 = 65536 by decide]; simp [sg, mwt]
  rw [hs, Int.add_mul_ediv_left _ _ (by omega), Int.ediv_eq_zero_of_lt h1.1 h1.2, h2]
  have := h i hi
  omega
/-- byte j of a number -/
def byN (v : Int) (j : Nat) : Nat := v.toNat / 2 ^ (8 * j) % 256
theorem dig_0 {g : Nat → Int} (h : mIn g) {i : Nat} (hi : i < 16) : (g i % 256).toNat = byN (sg mwt g 16) (2 * i) ∧ (g i / 256 % 256).toNat = byN (sg mwt g 16) (2 * i + 1) := by
  have hd := dig h hi
  have h0 := (mIn_sg h 16 (Nat.le_refl _)).1
  unfold byN
  generalize sg mwt g 16 = v at *
  obtain ⟨n, rfl⟩ : ∃ n : Nat, v = n := ⟨v.toNat, by omega⟩
  rw [show mwt i = ((2 ^ (8 * (2 * i)) : Nat) : Int) by unfold mwt; rw [show 8 * (2 * i) = 16 * i by omega, Nat.pow_mul, Int.natCast_pow]; rfl] at hd
  rw [← hd, show 8 * (2 * i + 1) = 8 * (2 * i) + 8 by omega, Nat.pow_add, ← Nat.div_div_eq_div_mul]
  rw [← Int.natCast_ediv, Int.toNat_natCast]
  generalize n / 2 ^ (8 * (2 * i)) = k at *
  omega
/-! what 32 bytes say -/
def bN (b : Nat → Nat) : Nat → Nat
  | 0 => 0
  | n + 1 => bN b n + b n * 256 ^ n
theorem bN_app (b : Nat → Nat) (a : Nat) : ∀ n, bN b (a + n) = bN b a + 256 ^ a * bN (fun t => b (a + t)) n
  | 0 => by simp [bN]
  | n + 1 => by rw [← Nat.add_assoc]; simp only [bN]; rw [bN_app b a n, Nat.pow_add]; grind
theorem bN_lt (b : Nat → Nat) : ∀ n, (∀ j, j < n → b j < 256) → bN b n < 256 ^ n
  | 0, _ => by simp [bN]
  | n + 1, h => by
    have ih := bN_lt b n (fun j hj => h j (by omega))
    have h2 : (b n + 1) * 256 ^ n ≤ 256 * 256 ^ n := Nat.mul_le_mul_right _ (h n (by omega))
    simp only [bN]; rw [Nat.add_mul] at h2; rw [Nat.pow_succ]; omega
theorem bN_div (b : Nat → Nat) (k n : Nat) (h : ∀ j, j < k → b j < 256) : bN b (k + n) / 256 ^ k = bN (fun t => b (k + t)) n := by
  rw [bN_app, Nat.add_mul_div_left _ _ (Nat.pow_pos (by omega)), Nat.div_eq_of_lt (bN_lt b k h), Nat.zero_add]
theorem bN_bits (b : Nat → Nat) (hb : ∀ j, j < 32 → b j < 256) {k r w : Nat} (hk : k + 4 ≤ 32) (hrw : r + w ≤ 32) : bN b 32 / 2 ^ (8 * k + r) % 2 ^ w = by4 b k / 2 ^ r % 2 ^ w := by
  obtain ⟨m, hm⟩ : ∃ m, 32 = k + (4 + m) := ⟨28 - k, by omega⟩
  have h1 : bN b 32 / 256 ^ k = bN (fun t => b (k + t)) (4 + m) := by
    have := bN_div b k (4 + m) (fun j hj => hb j (by omega)); rw [← hm] at this; exact this
  rw [Nat.pow_add, ← Nat.div_div_eq_div_mul, Nat.pow_mul, show (2 : Nat) ^ 8 = 256 from rfl, h1, bN_app]
  rw [show bN (fun t => b (k + t)) 4 = by4 b k by simp only [bN, by4]; rw [Nat.add_zero]; omega]
  rw [show (256 : Nat) ^ 4 = 2 ^ r * (2 ^ w * 2 ^ (32 - r - w)) by rw [← Nat.pow_add, ← Nat.pow_add, show r + (w + (32 - r - w)) = 32 by omega]]
  rw [Nat.mul_assoc, Nat.add_mul_div_left _ _ (Nat.two_pow_pos r), Nat.mul_assoc, Nat.add_mul_mod_self_left]
theorem cvS_f : ∀ i, i < 10 → cvS i / 8 + 4 ≤ 32 ∧ cvS i % 8 + wd i ≤ 32 := by decide
theorem upF_sg (b : Nat → Nat) (hb : ∀ j, j < 32 → b j < 256) : ∀ n, n ≤ 10 → sg cwt (upF b) n = ((bN b 32 % 2 ^ cvS n : Nat) : Int)
  | 0, _ => by
    show (0 : Int) = _
    rw [show cvS 0 = 0 from rfl, Nat.pow_zero, Nat.mod_one]; rfl
  | n + 1, hn => by
    simp only [sg]
    have hf := cvS_f n (by omega)
    rw [upF_sg b hb n (by omega), cvS_s, Nat.pow_add, Nat.mod_mul]
    have h1 := bN_bits b hb hf.1 hf.2
    rw [show 8 * (cvS n / 8) + cvS n % 8 = cvS n by omega] at h1
    rw [show upF b n = ((by4 b (cvS n / 8) / 2 ^ (cvS n % 8) % 2 ^ wd n : Nat) : Int) from rfl, ← h1, Int.natCast_add, Int.natCast_mul, Int.natCast_pow, Int.mul_comm (((2 : Nat) : Int) ^ cvS n)]; rfl
def mUp (b : Nat → Nat) (i : Nat) : Int := if i = 15 then (((b 30 + 256 * b 31) % 32768 : Nat) : Int) else ((b (2 * i) + 256 * b (2 * i + 1) : Nat) : Int)
theorem two_b (b : Nat → Nat) (hb : ∀ j, j < 32 → b j < 256) {i : Nat} (hi : i < 16) : bN b 32 / 2 ^ (16 * i) % 65536 = b (2 * i) + 256 * b (2 * i + 1) := by
  obtain ⟨m, hm⟩ : ∃ m, 32 = 2 * i + (2 + m) := ⟨30 - 2 * i, by omega⟩
  have h1 : bN b 32 / 256 ^ (2 * i) = bN (fun t => b (2 * i + t)) (2 + m) := by
    have := bN_div b (2 * i) (2 + m) (fun j hj => hb j (by omega)); rw [← hm] at this; exact this
  rw [show 16 * i = 8 * (2 * i) by omega, Nat.pow_mul 2 8, show (2 : Nat) ^ 8 = 256 from rfl, h1, bN_app]
  have h2 := hb (2 * i) (by omega); have h3 := hb (2 * i + 1) (by omega)
  simp [bN]; omega
theorem mUp_sg (b : Nat → Nat) (hb : ∀ j, j < 32 → b j < 256) : sg mwt (mUp b) 16 = ((bN b 32 % 2 ^ 255 : Nat) : Int) := by
  have h : ∀ n, n ≤ 15 → sg mwt (mUp b) n = ((bN b 32 % 2 ^ (16 * n) : Nat) : Int) := by
    intro n
    induction n with
    | zero => intro _; show (0 : Int) = _; rw [Nat.mul_zero, Nat.pow_zero, Nat.mod_one]; rfl
    | succ n ih =>
      intro hn
      rw [show sg mwt (mUp b) (n + 1) = sg mwt (mUp b) n + mUp b n * mwt n from rfl, ih (by omega), show 16 * (n + 1) = 16 * n + 16 by omega, Nat.pow_add, Nat.mod_mul, show (2 : Nat) ^ 16 = 65536 from rfl, two_b b hb (by omega)]
      unfold mUp; rw [if_neg (by omega)]
      rw [show mwt n = ((2 ^ (16 * n) : Nat) : Int) by unfold mwt; rw [Nat.pow_mul, Int.natCast_pow]; rfl]
      rw [← Int.natCast_mul, ← Int.natCast_add, Nat.mul_comm (2 ^ (16 * n))]
  rw [show sg mwt (mUp b) 16 = sg mwt (mUp b) 15 + mUp b 15 * mwt 15 from rfl, h 15 (Nat.le_refl _)]
  have h15 := two_b b hb (show 15 < 16 by omega)
  rw [show (2 : Nat) ^ 255 = 2 ^ (16 * 15) * 32768 by decide +kernel, Nat.mod_mul]
  rw [show mUp b 15 = (((b 30 + 256 * b 31) % 32768 : Nat) : Int) from rfl, show b 30 + 256 * b 31 = bN b 32 / 2 ^ (16 * 15) % 65536 from h15.symm, Nat.mod_mod_of_dvd _ (by decide)]
  rw [Int.natCast_add, Int.natCast_mul, Int.mul_comm (((2 ^ (16 * 15) : Nat)) : Int)]
  congr 1
def ptV (b : Nat → Nat) : Int := ((bN b 32 % 2 ^ 255 : Nat) : Int) % P5
theorem upF_cv (b : Nat → Nat) (hb : ∀ j, j < 32 → b j < 256) : cv (upF b) = ptV b := by unfold cv ptV; rw [upF_sg b hb 10 (Nat.le_refl _)]; rfl
theorem mUp_mv (b : Nat → Nat) (hb : ∀ j, j < 32 → b j < 256) : mv (mUp b) = ptV b := by unfold mv ptV; rw [mUp_sg b hb]
/-! the ladder, in numbers -/
abbrev z4 : Type := Int × Int × Int × Int
def zSt (x1 : Int) (q : z4) : z4 :=
  let a := (q.1 + q.2.1) % P5; let b := (q.1 - q.2.1) % P5
  let d := (q.2.2.1 - q.2.2.2) % P5 * a % P5; let c := (q.2.2.1 + q.2.2.2) % P5 * b % P5
  let a2 := a * a % P5; let b2 := b * b % P5
  let e := (a2 - b2) % P5
  (a2 * b2 % P5, e * ((a2 + 121665 * e % P5) % P5) % P5, (d + c) % P5 * ((d + c) % P5) % P5, x1 * ((d - c) % P5 * ((d - c) % P5) % P5) % P5)
def zSw (b : Bool) (q : z4) : z4 := if b then (q.2.2.1, q.2.2.2, q.1, q.2.1) else q
def zLad (x : Int) (bt : Nat → Bool) : Nat → z4
  | 0 => (1, 0, x, 1)
  | n + 1 => zSw (bt (254 - n)) (zSt x (zSw (bt (254 - n)) (zLad x bt n)))
def zPw (z : Int) : Nat → Int
  | 0 => z
  | n + 1 => if n = 251 ∨ n = 249 then zPw z n * zPw z n % P5 else zPw z n * zPw z n % P5 * z % P5
def dhV (bt : Nat → Bool) (b : Nat → Nat) : Int := (zLad (ptV b) bt 255).1 * zPw (zLad (ptV b) bt 255).2.1 254 % P5
def cq (q : q4) : z4 := (cv q.1, cv q.2.1, cv q.2.2.1, cv q.2.2.2)
theorem cq_st (x : Nat → Int) (q : q4) : cq (stQ x q) = zSt (cv x) (cq q) := by
  simp only [cq, stQ, stepF, zSt, cv_mul, cv_add, cv_sub, cv_sc]
theorem cq_sw (q : q4) : cq (swQ q) = zSw true (cq q) := rfl
theorem zSw2 (b : Bool) (q : z4) : zSw b (zSw b q) = q := by cases b <;> rfl
theorem cv_one : cv cOne = 1 := by decide +kernel
theorem cv_zer : cv cZer = 0 := by decide +kernel
theorem ladF_z (x : Nat → Int) (bt : Nat → Bool) (hx : cv x = cv x) : ∀ n, cq (ladF x bt n).1 = zSw (ladF x bt n).2 (zLad (cv x) bt n)
  | 0 => by show (cv cOne, cv cZer, cv x, cv cOne) = (1, 0, cv x, 1); rw [cv_one, cv_zer]
  | n + 1 => by
    have ih := ladF_z x bt hx n
    simp only [ladF, zLad]
    rw [zSw2, cq_st]
    congr 1
    by_cases c : bt (254 - n) = (ladF x bt n).2
    · rw [if_pos c, ih, c]
    · rw [if_neg c, cq_sw, ih]
      generalize (ladF x bt n).2 = f at *
      generalize bt (254 - n) = g at *
      cases f <;> cases g <;> first | rfl | exact absurd rfl c
theorem fPw_z (F : Nat → Int) : ∀ n, cv (fPw F n) = zPw (cv F) n
  | 0 => rfl
  | n + 1 => by
    have ih := fPw_z F n
    simp only [fPw, zPw]
    split
    · rw [cv_mul, ih]
    · rw [cv_mul, cv_mul, ih]
theorem bit0 (s : Nat → Int32) : bitS (scl s) 0 = false := by
  unfold bitS
  refine decide_eq_false ?_
  rw [show scl s (0 / 2 ^ 3) = s 0 &&& nI 248 from rfl, show isr (s 0 &&& nI 248) (nI (0 % 2 ^ 3)) = s 0 &&& nI 248 by first | exact isr_0 _ | (unfold isr; simp [nI])]
  rw [Int32.and_assoc, show nI 248 &&& nI 1 = 0 by decide +kernel, Int32.and_zero]
  decide +kernel
/-- class and model come to the same number -/
theorem mpF_z (s : Nat → Int32) (b : Nat → Nat) (hb : ∀ j, j < 32 → b j < 256) (j : Nat) : mpF s b j = nI (byN (dhV (bitS (scl s)) b) j) := by
  have hQ := ladF_b (bitS (scl s)) (upF_b b) 255
  have hz := ladF_z (upF b) (bitS (scl s)) rfl 255
  rw [show (ladF (upF b) (bitS (scl s)) 255).2 = bitS (scl s) 0 from rfl, bit0, upF_cv b hb] at hz
  have hp := pk_cv (hQ.1.w.mul (fPw_b hQ.2.1 254).w)
  rw [cv_mul, fPw_z] at hp
  have e1 : cv (ladF (upF b) (bitS (scl s)) 255).1.1 = (zLad (ptV b) (bitS (scl s)) 255).1 := congrArg (fun q : z4 => q.1) hz
  have e2 : cv (ladF (upF b) (bitS (scl s)) 255).1.2.1 = (zLad (ptV b) (bitS (scl s)) 255).2.1 := congrArg (fun q : z4 => q.2.1) hz
  rw [e1, e2] at hp
  unfold mpF packF byN mpQ
  congr 2
  rw [show dhV (bitS (scl s)) b = _ from hp.symm]
  rfl
