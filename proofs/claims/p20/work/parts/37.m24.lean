def cvQ (f : Nat → Int) : Nat → Int
  | 0 => 19
  | i + 1 => (f i + cvQ f i) / 2 ^ wd i
def cvO2 (f : Nat → Int) : Nat → Int
  | 0 => cvQ f 10 * 19
  | i + 1 => (f i + cvO2 f i) / 2 ^ wd i
def cvE (f : Nat → Int) (i : Nat) : Nat := ((f i + cvO2 f i) % 2 ^ wd i).toNat
def cvP (f : Nat → Int) : Nat → Nat
  | 0 => 0
  | l + 1 => cvP f l + cvE f l * 2 ^ cvS l
/-- the bytes of a number -/
def packF (f : Nat → Int) (i : Nat) : Nat := cvP f 10 / 2 ^ (8 * i) % 256
theorem cvB.b27 {f : Nat → Int} (h : cvB f) {i : Nat} (hi : i < 10) : -2 ^ 27 ≤ f i ∧ f i ≤ 2 ^ 27 := by
  have := h i hi; by_cases e : i % 2 = 0
  · rw [if_pos e, if_pos e] at this; omega
  · rw [if_neg e, if_neg e] at this; omega
theorem cvQ_b {f : Nat → Int} (h : cvB f) : ∀ i, i ≤ 10 → -64 ≤ cvQ f i ∧ cvQ f i ≤ 64
  | 0, _ => by simp [cvQ]
  | i + 1, hi => by
    have ih := cvQ_b h i (by omega)
    have hf := h.b27 (show i < 10 by omega)
    simp only [cvQ]
    rcases wd_or i with e | e <;> rw [e.1] <;> omega
theorem cvO2_b {f : Nat → Int} (h : cvB f) : ∀ i, i ≤ 10 → -2048 ≤ cvO2 f i ∧ cvO2 f i ≤ 2048
  | 0, _ => by have := cvQ_b h 10 (Nat.le_refl _); simp only [cvO2]; omega
  | i + 1, hi => by
    have ih := cvO2_b h i (by omega)
    have hf := h.b27 (show i < 10 by omega)
    simp only [cvO2]
    rcases wd_or i with e | e <;> rw [e.1] <;> omega
theorem cvE_i (f : Nat → Int) (i : Nat) : (f i + cvO2 f i) % 2 ^ wd i = (cvE f i : Int) := by
  unfold cvE; rcases wd_or i with e | e <;> rw [e.1] <;> omega
theorem cvE_lt (f : Nat → Int) (i : Nat) : cvE f i < 2 ^ wd i := by
  unfold cvE; rcases wd_or i with e | e <;> rw [e.1] <;> omega
theorem cvP_lt (f : Nat → Int) : ∀ l, cvP f l < 2 ^ cvS l
  | 0 => Nat.two_pow_pos _
  | l + 1 => by
    have ih := cvP_lt f l
    have he := cvE_lt f l
    simp only [cvP]
    rw [cvS_s, Nat.pow_add, Nat.mul_comm (2 ^ cvS l)]
    have h2 : (cvE f l + 1) * 2 ^ cvS l ≤ 2 ^ wd l * 2 ^ cvS l := Nat.mul_le_mul_right _ he
    rw [Nat.add_mul] at h2
    omega
theorem cvS_mono {a b : Nat} (h : a ≤ b) : cvS a ≤ cvS b := by unfold cvS; omega
theorem cvP_mod (f : Nat → Int) : ∀ l k, ∃ r, cvP f (l + k) = cvP f l + r * 2 ^ cvS l
  | l, 0 => ⟨0, by simp⟩
  | l, k + 1 => by
    obtain ⟨r, hr⟩ := cvP_mod f l k
    refine ⟨r + cvE f (l + k) * 2 ^ (cvS (l + k) - cvS l), ?_⟩
    show cvP f (l + k) + cvE f (l + k) * 2 ^ cvS (l + k) = _
    rw [hr, Nat.add_mul, Nat.mul_assoc, ← Nat.pow_add, Nat.sub_add_cancel (cvS_mono (by omega)), Nat.add_assoc]
theorem packF_at (f : Nat → Int) {l i : Nat} (hl : l ≤ 10) (h : 8 * i + 8 ≤ cvS l ∨ l = 10) : cvP f l / 2 ^ (8 * i) % 256 = packF f i := by
  unfold packF
  rcases h with h | h
  · obtain ⟨r, hr⟩ := cvP_mod f l (10 - l)
    rw [show l + (10 - l) = 10 by omega] at hr
    rw [hr, show cvS l = 8 * i + (8 + (cvS l - (8 * i + 8))) by omega, Nat.pow_add, Nat.mul_comm (2 ^ (8 * i)), ← Nat.mul_assoc, Nat.add_mul_div_right _ _ (Nat.two_pow_pos _), Nat.pow_add, Nat.mul_comm (2 ^ 8), ← Nat.mul_assoc, show (2 : Nat) ^ 8 = 256 from rfl, Nat.add_mul_mod_self_right]
  · rw [h]
theorem cvP_add (f : Nat → Int) {l i : Nat} (h : 8 * i ≤ cvS l) : cvP f (l + 1) / 2 ^ (8 * i) = cvP f l / 2 ^ (8 * i) + cvE f l * 2 ^ (cvS l - 8 * i) := by
  simp only [cvP]
  rw [show cvE f l * 2 ^ cvS l = cvE f l * 2 ^ (cvS l - 8 * i) * 2 ^ (8 * i) by rw [Nat.mul_assoc, ← Nat.pow_add, Nat.sub_add_cancel h], Nat.add_mul_div_right _ _ (Nat.two_pow_pos _)]
theorem cvP_hl (f : Nat → Int) {l i : Nat} (h : 8 * i ≤ cvS l) : cvP f l / 2 ^ (8 * i) < 2 ^ (cvS l - 8 * i) := by
  rw [Nat.div_lt_iff_lt_mul (Nat.two_pow_pos _), ← Nat.pow_add, Nat.sub_add_cancel h]
  exact cvP_lt f l
theorem nI_255 (n : Nat) : nI n &&& nI 255 = nI (n % 256) := by
  rw [pk_and (nI n) 8 (by decide +kernel)]
  congr 1
  show (BitVec.ofNat 32 n).toNat % 2 ^ 8 = n % 256
  rw [BitVec.toNat_ofNat]
  omega
theorem lZ_or {n e k : Nat} (h : n < 2 ^ k) : lZ (n : Int) ||| lZ ((e : Int) * 2 ^ k) = lZ ((n + e * 2 ^ k : Nat) : Int) := by
  rw [show (e : Int) * 2 ^ k = ((e * 2 ^ k : Nat) : Int) by rw [Int.natCast_mul, Int.natCast_pow]; rfl, lZ_nat, lZ_nat, lN_or, or_add k h, lZ_nat]
theorem x_dec8 {a b : Nat} : nI a - nI b + (-8) = nI a - nI (b + 8) := by
  rw [← nI_add, show (nI 8 : Int32) = 8 by decide +kernel]
  generalize nI a = x; generalize nI b = y
  rw [Int32.sub_eq_add_neg, Int32.sub_eq_add_neg, Int32.neg_add, Int32.sub_eq_add_neg, Int32.add_assoc]
theorem x_inc {a b c : Nat} : nI a - nI b + nI c = nI (a + c) - nI b := by
  rw [← nI_add, Int32.sub_eq_add_neg, Int32.sub_eq_add_neg, Int32.add_assoc, Int32.add_assoc, Int32.add_comm (-nI b)]
