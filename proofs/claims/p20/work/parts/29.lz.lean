/-! ===== longs as whole numbers ===== -/
def lZ (x : Int) : Int64 := Int64.ofInt x
theorem lZ_add (a b : Int) : lZ a + lZ b = lZ (a + b) := (Int64.ofInt_add a b).symm
theorem lZ_sub (a b : Int) : lZ a - lZ b = lZ (a - b) := (Int64.ofInt_sub a b).symm
theorem lZ_mul (a b : Int) : lZ a * lZ b = lZ (a * b) := (Int64.ofInt_mul a b).symm
theorem lZ_self (x : Int64) : lZ x.toInt = x := Int64.ofInt_toInt x
theorem lZ_toInt {a : Int} (h1 : -2 ^ 63 ≤ a) (h2 : a < 2 ^ 63) : (lZ a).toInt = a := Int64.toInt_ofInt_of_le (by omega) (by omega)
theorem lZ_nat (n : Nat) : lZ (n : Int) = lN n := by
  unfold lZ lN; first | rfl | exact Int64.ofInt_eq_ofNat | simp
theorem lZ_bv (a : Int) : (lZ a).toBitVec = BitVec.ofInt 64 a := by unfold lZ; first | rfl | exact Int64.toBitVec_ofInt a
theorem lZ_shr {a : Int} (h1 : -2 ^ 63 ≤ a) (h2 : a < 2 ^ 63) {k : Nat} (hk : k < 63) : lsr (lZ a) (nI k) = lZ (a / 2 ^ k) := by
  have hp : (1 : Int) ≤ 2 ^ k := by exact_mod_cast Nat.one_le_two_pow
  apply Int64.toInt_inj.mp
  have e : (lsr (lZ a) (nI k)).toInt = (lZ a).toInt >>> k := by
    show (lsr (lZ a) (nI k)).toBitVec.toInt = _
    rw [lsr_bv _ (by omega), BitVec.toInt_sshiftRight]
    rfl
  have b1 : -2 ^ 63 ≤ a / 2 ^ k := Int.le_ediv_of_mul_le (by omega) (by omega)
  have b2 : a / 2 ^ k < 2 ^ 63 := by
    rcases Int.lt_or_le a 0 with h | h
    · have := Int.ediv_neg_of_neg_of_pos h (show (0 : Int) < 2 ^ k by omega); omega
    · have := Int.ediv_le_self (b := 2 ^ k) h; omega
  rw [e, Int.shiftRight_eq_div_pow, lZ_toInt h1 h2, lZ_toInt b1 b2]
  simp
theorem lZ_and (a : Int) {k : Nat} (hk : k < 63) : lZ a &&& lZ (2 ^ k - 1) = lZ (a % 2 ^ k) := by
  apply Int64.toBitVec_inj.mp
  rw [Int64.toBitVec_and, lZ_bv, lZ_bv, lZ_bv]
  have hp : (2 : Nat) ^ k < 2 ^ 63 := Nat.pow_lt_pow_right (by decide) hk
  have hq : (0 : Nat) < 2 ^ k := Nat.two_pow_pos k
  have e1 : (2 ^ k - 1 : Int) = ((2 ^ k - 1 : Nat) : Int) := by
    rw [Int.ofNat_sub (by omega)]; simp
  have hz : (0 : Int) < 2 ^ k := by exact_mod_cast hq
  have e2 : a % 2 ^ k = ((a % 2 ^ k).toNat : Int) := (Int.toNat_of_nonneg (Int.emod_nonneg _ (by omega))).symm
  apply BitVec.eq_of_toNat_eq
  rw [BitVec.toNat_and, BitVec.toNat_ofInt, BitVec.toNat_ofInt, BitVec.toNat_ofInt, e1]
  have e3 : ((((2 ^ k - 1 : Nat) : Int) % ((2 ^ 64 : Nat) : Int)).toNat) = 2 ^ k - 1 := by
    rw [← Int.natCast_emod]; simp; omega
  rw [e3, Nat.and_two_pow_sub_one_eq_mod]
  have hd : ((2 : Int) ^ k) ∣ ((2 ^ 64 : Nat) : Int) := by
    refine ⟨2 ^ (64 - k), ?_⟩
    rw [← Int.pow_add, show k + (64 - k) = 64 by omega]; rfl
  have h1 := Int.emod_emod_of_dvd a hd
  have n1 : 0 ≤ a % ((2 ^ 64 : Nat) : Int) := Int.emod_nonneg _ (by decide)
  have n2 : 0 ≤ a % (2 ^ k : Int) := by rw [e2]; exact Int.natCast_nonneg _
  have b2 : a % (2 ^ k : Int) < 2 ^ k := Int.emod_lt_of_pos _ (by exact_mod_cast hq)
  apply Int.ofNat.inj
  show (((a % ((2 ^ 64 : Nat) : Int)).toNat % 2 ^ k : Nat) : Int) = ((a % 2 ^ k % ((2 ^ 64 : Nat) : Int)).toNat : Int)
  rw [Int.natCast_emod, Int.toNat_of_nonneg n1]
  rw [show (((2 ^ k : Nat)) : Int) = (2 : Int) ^ k by simp, h1]
  have b3 : (2 : Int) ^ k < 2 ^ 63 := by exact_mod_cast hp
  rw [Int.emod_eq_of_lt n2 (by show _ < ((2 ^ 64 : Nat) : Int); simp; omega), Int.toNat_of_nonneg n2]
theorem lZ_shl (a : Int) {k : Nat} (hk : k < 63) : lsl (lZ a) (nI k) = lZ (a * 2 ^ k) := by
  rw [← lZ_mul]
  apply Int64.toBitVec_inj.mp
  rw [lsl_bv _ (by omega), Int64.toBitVec_mul, BitVec.shiftLeft_eq_mul_twoPow]
  congr 1
  rw [lZ_bv]
  apply BitVec.eq_of_toNat_eq
  rw [BitVec.toNat_twoPow, BitVec.toNat_ofInt]
  have e0 : ((2 : Int) ^ k) = ((2 ^ k : Nat) : Int) := by simp
  have e1 : (((2 ^ k : Nat) : Int) % ((2 ^ 64 : Nat) : Int)).toNat = 2 ^ k % 2 ^ 64 := by rw [← Int.natCast_emod]; exact Int.toNat_natCast _
  rw [e0]
  exact e1.symm
theorem lZ_lt {a b : Int} (h1 : -2 ^ 63 ≤ a) (h2 : a < 2 ^ 63) (h3 : -2 ^ 63 ≤ b) (h4 : b < 2 ^ 63) : lZ a < lZ b ↔ a < b := by
  rw [Int64.lt_iff_toInt_lt, lZ_toInt h1 h2, lZ_toInt h3 h4]
theorem lZ_i {n : Nat} (h : n < 2 ^ 31) : Int32.toInt64 (nI n) = lZ n := by rw [lZ_nat]; exact nI_l h
theorem lZ_l2i {n : Nat} : Int64.toInt32 (lZ n) = nI n := by rw [lZ_nat]; exact lN_i n
theorem lZ_lit (n : Nat) : (OfNat.ofNat n : Int64) = lZ n := by rw [lZ_nat]; rfl
section HXZ
variable {z : hZ} {own : String} {cc : ByteArray} {cells slots pc : Nat} {G : hG} {lv : List (Nat × Value)} {rest : List Value}
theorem x_laddZ (C : hC z own cc) {a b : Int} (d : decode cc pc = .ok (.ladd, 1)) (k : hX z cells slots G lv (pc + 1) (.long (lZ (a + b)) :: rest)) : hX z cells slots G lv pc (.long (lZ b) :: .long (lZ a) :: rest) := x_ladd C d (by rw [lZ_add]; exact k)
theorem x_lsubZ (C : hC z own cc) {a b : Int} (d : decode cc pc = .ok (.lsub, 1)) (k : hX z cells slots G lv (pc + 1) (.long (lZ (a - b)) :: rest)) : hX z cells slots G lv pc (.long (lZ b) :: .long (lZ a) :: rest) := x_lsub C d (by rw [lZ_sub]; exact k)
theorem x_lmulZ (C : hC z own cc) {a b : Int} (d : decode cc pc = .ok (.lmul, 1)) (k : hX z cells slots G lv (pc + 1) (.long (lZ (a * b)) :: rest)) : hX z cells slots G lv pc (.long (lZ b) :: .long (lZ a) :: rest) := x_lmul C d (by rw [lZ_mul]; exact k)
end HXZ
