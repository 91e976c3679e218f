theorem nI_or (a b : Nat) : nI a ||| nI b = nI (a ||| b) := by
  apply Int32.toBitVec_inj.mp
  rw [Int32.toBitVec_or]
  show BitVec.ofNat 32 a ||| BitVec.ofNat 32 b = BitVec.ofNat 32 (a ||| b)
  apply BitVec.eq_of_getLsbD_eq; intro i hi; simp [BitVec.getLsbD_ofNat, Nat.testBit_or, hi]
theorem lN_or (a b : Nat) : lN a ||| lN b = lN (a ||| b) := by
  apply Int64.toBitVec_inj.mp
  rw [Int64.toBitVec_or]
  show BitVec.ofNat 64 a ||| BitVec.ofNat 64 b = BitVec.ofNat 64 (a ||| b)
  apply BitVec.eq_of_getLsbD_eq; intro i hi; simp [BitVec.getLsbD_ofNat, Nat.testBit_or, hi]
theorem or_add {a b : Nat} (k : Nat) (h : a < 2 ^ k) : a ||| b * 2 ^ k = a + b * 2 ^ k := by
  rw [Nat.or_comm, Nat.mul_comm b, ← Nat.two_pow_add_eq_or_of_lt h b, Nat.add_comm]
/-- four bytes as a number -/
def by4 (b : Nat → Nat) (i : Nat) : Nat := b i + b (i + 1) * 2 ^ 8 + b (i + 2) * 2 ^ 16 + b (i + 3) * 2 ^ 24
theorem bitsF_val {f : Nat → Int32} {b : Nat → Nat} {s w : Nat} (hf : ∀ j, j < 4 → f (s / 8 + j) = nI (b (s / 8 + j)) ∧ b (s / 8 + j) < 256) (hw : w ≤ 32) : bitsF f s w = lZ ((by4 b (s / 8) / 2 ^ (s % 8) % 2 ^ w : Nat) : Int) := by
  have h0 := hf 0 (by decide); have h1 := hf 1 (by decide); have h2 := hf 2 (by decide); have h3 := hf 3 (by decide)
  rw [Nat.add_zero] at h0
  unfold bitsF by4
  rw [show (2 : Nat) ^ 3 = 8 from rfl, h0.1, h1.1, h2.1, h3.1]
  generalize b (s / 8) = b0 at *; generalize b (s / 8 + 1) = b1 at *; generalize b (s / 8 + 2) = b2 at *; generalize b (s / 8 + 3) = b3 at *
  rw [nI_sl (by decide) (by omega), nI_sl (by decide) (by omega), nI_or, nI_or, or_add 8 (by omega), or_add 16 (by omega), lZ_i (by omega), lZ_i (by omega), lZ_shl _ (by decide)]
  have e : ((b3 : Int) * 2 ^ 24) = ((b3 * 2 ^ 24 : Nat) : Int) := by omega
  rw [e, lZ_nat, lZ_nat, lN_or, or_add 24 (by omega), ← lZ_nat, lZ_shr (by omega) (by omega) (by omega)]
  have e2 : lsl 1 (nI w) - 1 = lZ (2 ^ w - 1) := by
    rw [show (1 : Int64) = lZ 1 from lZ_lit 1, lZ_shl _ (by omega), lZ_sub]; congr 2; omega
  rw [e2, lZ_and _ (by omega)]
  congr 1
