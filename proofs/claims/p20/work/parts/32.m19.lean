def cvMul (F G : Nat → Int) (k : Nat) : Int := match k with
  | 0 => ((((((((((F 0) * (G 0)) + ((2 * (F 1)) * (19 * (G 9)))) + ((F 2) * (19 * (G 8)))) + ((2 * (F 3)) * (19 * (G 7)))) + ((F 4) * (19 * (G 6)))) + ((2 * (F 5)) * (19 * (G 5)))) + ((F 6) * (19 * (G 4)))) + ((2 * (F 7)) * (19 * (G 3)))) + ((F 8) * (19 * (G 2)))) + ((2 * (F 9)) * (19 * (G 1)))
  | 1 => ((((((((((F 0) * (G 1)) + ((F 1) * (G 0))) + ((F 2) * (19 * (G 9)))) + ((F 3) * (19 * (G 8)))) + ((F 4) * (19 * (G 7)))) + ((F 5) * (19 * (G 6)))) + ((F 6) * (19 * (G 5)))) + ((F 7) * (19 * (G 4)))) + ((F 8) * (19 * (G 3)))) + ((F 9) * (19 * (G 2)))
  | 2 => ((((((((((F 0) * (G 2)) + ((2 * (F 1)) * (G 1))) + ((F 2) * (G 0))) + ((2 * (F 3)) * (19 * (G 9)))) + ((F 4) * (19 * (G 8)))) + ((2 * (F 5)) * (19 * (G 7)))) + ((F 6) * (19 * (G 6)))) + ((2 * (F 7)) * (19 * (G 5)))) + ((F 8) * (19 * (G 4)))) + ((2 * (F 9)) * (19 * (G 3)))
  | 3 => ((((((((((F 0) * (G 3)) + ((F 1) * (G 2))) + ((F 2) * (G 1))) + ((F 3) * (G 0))) + ((F 4) * (19 * (G 9)))) + ((F 5) * (19 * (G 8)))) + ((F 6) * (19 * (G 7)))) + ((F 7) * (19 * (G 6)))) + ((F 8) * (19 * (G 5)))) + ((F 9) * (19 * (G 4)))
  | 4 => ((((((((((F 0) * (G 4)) + ((2 * (F 1)) * (G 3))) + ((F 2) * (G 2))) + ((2 * (F 3)) * (G 1))) + ((F 4) * (G 0))) + ((2 * (F 5)) * (19 * (G 9)))) + ((F 6) * (19 * (G 8)))) + ((2 * (F 7)) * (19 * (G 7)))) + ((F 8) * (19 * (G 6)))) + ((2 * (F 9)) * (19 * (G 5)))
  | 5 => ((((((((((F 0) * (G 5)) + ((F 1) * (G 4))) + ((F 2) * (G 3))) + ((F 3) * (G 2))) + ((F 4) * (G 1))) + ((F 5) * (G 0))) + ((F 6) * (19 * (G 9)))) + ((F 7) * (19 * (G 8)))) + ((F 8) * (19 * (G 7)))) + ((F 9) * (19 * (G 6)))
  | 6 => ((((((((((F 0) * (G 6)) + ((2 * (F 1)) * (G 5))) + ((F 2) * (G 4))) + ((2 * (F 3)) * (G 3))) + ((F 4) * (G 2))) + ((2 * (F 5)) * (G 1))) + ((F 6) * (G 0))) + ((2 * (F 7)) * (19 * (G 9)))) + ((F 8) * (19 * (G 8)))) + ((2 * (F 9)) * (19 * (G 7)))
  | 7 => ((((((((((F 0) * (G 7)) + ((F 1) * (G 6))) + ((F 2) * (G 5))) + ((F 3) * (G 4))) + ((F 4) * (G 3))) + ((F 5) * (G 2))) + ((F 6) * (G 1))) + ((F 7) * (G 0))) + ((F 8) * (19 * (G 9)))) + ((F 9) * (19 * (G 8)))
  | 8 => ((((((((((F 0) * (G 8)) + ((2 * (F 1)) * (G 7))) + ((F 2) * (G 6))) + ((2 * (F 3)) * (G 5))) + ((F 4) * (G 4))) + ((2 * (F 5)) * (G 3))) + ((F 6) * (G 2))) + ((2 * (F 7)) * (G 1))) + ((F 8) * (G 0))) + ((2 * (F 9)) * (19 * (G 9)))
  | _ => ((((((((((F 0) * (G 9)) + ((F 1) * (G 8))) + ((F 2) * (G 7))) + ((F 3) * (G 6))) + ((F 4) * (G 5))) + ((F 5) * (G 4))) + ((F 6) * (G 3))) + ((F 7) * (G 2))) + ((F 8) * (G 1))) + ((F 9) * (G 0))
def wB (i : Nat) : Int := if i % 2 = 0 then 134217728 else 67371008
/-- limbs that may be multiplied -/
def cvW (F : Nat → Int) : Prop := ∀ i, i < 10 → -wB i ≤ F i ∧ F i ≤ wB i
/-- limbs behind a carry -/
def cvB (F : Nat → Int) : Prop := ∀ i, i < 10 → (if i % 2 = 0 then 0 else -131072) ≤ F i ∧ F i ≤ if i % 2 = 0 then 67108864 else 33685504
theorem mulB {a b A B : Int} (h : -A ≤ a ∧ a ≤ A) (k : -B ≤ b ∧ b ≤ B) : -(A * B) ≤ a * b ∧ a * b ≤ A * B := by
  have hA : 0 ≤ A := by omega
  have hB : 0 ≤ B := by omega
  have e : (a * b).natAbs ≤ (A * B).natAbs := by
    rw [Int.natAbs_mul, Int.natAbs_mul]
    exact Nat.mul_le_mul (by omega) (by omega)
  have := Int.mul_nonneg hA hB
  omega
theorem cvCar_b {f : Nat → Int} (h : ∀ i, i < 10 → -2 ^ 62 ≤ f i ∧ f i ≤ 2 ^ 62) : cvB (cvCar f) := by
  intro i hi
  have ho := cvOv_b h 10 (Nat.le_refl _)
  have h0 := cvG_b2 f 0
  have h1 := cvG_b f 1
  have w0 : wd 0 = 26 := rfl
  have w1 : wd 1 = 25 := rfl
  rw [w1] at h1
  unfold cvCar
  by_cases e0 : i = 0
  · rw [if_pos e0, if_pos (by omega), if_pos (by omega), w0]; omega
  · rw [if_neg e0]
    by_cases e1 : i = 1
    · rw [if_pos e1, if_neg (by omega), if_neg (by omega), w0]; omega
    · rw [if_neg e1]
      have hg := cvG_b f i
      rcases wd_or i with e | e <;> rw [e.1] at hg
      · rw [if_pos e.2, if_pos e.2]; omega
      · rw [if_neg (by omega), if_neg (by omega)]; omega
set_option maxHeartbeats 4000000 in
theorem cvMul_b {F G : Nat → Int} (hF : cvW F) (hG : cvW G) : ∀ i, i < 10 → -2 ^ 62 ≤ cvMul F G i ∧ cvMul F G i ≤ 2 ^ 62 := by
  have f0 : -134217728 ≤ F 0 ∧ F 0 ≤ 134217728 := hF 0 (by decide)
  have g0 : -134217728 ≤ G 0 ∧ G 0 ≤ 134217728 := hG 0 (by decide)
  have d0 : -268435456 ≤ 2 * (F 0) ∧ 2 * (F 0) ≤ 268435456 := by omega
  have n0 : -2550136832 ≤ 19 * (G 0) ∧ 19 * (G 0) ≤ 2550136832 := by omega
  have f1 : -67371008 ≤ F 1 ∧ F 1 ≤ 67371008 := hF 1 (by decide)
  have g1 : -67371008 ≤ G 1 ∧ G 1 ≤ 67371008 := hG 1 (by decide)
  have d1 : -134742016 ≤ 2 * (F 1) ∧ 2 * (F 1) ≤ 134742016 := by omega
  have n1 : -1280049152 ≤ 19 * (G 1) ∧ 19 * (G 1) ≤ 1280049152 := by omega
  have f2 : -134217728 ≤ F 2 ∧ F 2 ≤ 134217728 := hF 2 (by decide)
  have g2 : -134217728 ≤ G 2 ∧ G 2 ≤ 134217728 := hG 2 (by decide)
  have d2 : -268435456 ≤ 2 * (F 2) ∧ 2 * (F 2) ≤ 268435456 := by omega
  have n2 : -2550136832 ≤ 19 * (G 2) ∧ 19 * (G 2) ≤ 2550136832 := by omega
  have f3 : -67371008 ≤ F 3 ∧ F 3 ≤ 67371008 := hF 3 (by decide)
  have g3 : -67371008 ≤ G 3 ∧ G 3 ≤ 67371008 := hG 3 (by decide)
  have d3 : -134742016 ≤ 2 * (F 3) ∧ 2 * (F 3) ≤ 134742016 := by omega
  have n3 : -1280049152 ≤ 19 * (G 3) ∧ 19 * (G 3) ≤ 1280049152 := by omega
  have f4 : -134217728 ≤ F 4 ∧ F 4 ≤ 134217728 := hF 4 (by decide)
  have g4 : -134217728 ≤ G 4 ∧ G 4 ≤ 134217728 := hG 4 (by decide)
  have d4 : -268435456 ≤ 2 * (F 4) ∧ 2 * (F 4) ≤ 268435456 := by omega
  have n4 : -2550136832 ≤ 19 * (G 4) ∧ 19 * (G 4) ≤ 2550136832 := by omega
  have f5 : -67371008 ≤ F 5 ∧ F 5 ≤ 67371008 := hF 5 (by decide)
  have g5 : -67371008 ≤ G 5 ∧ G 5 ≤ 67371008 := hG 5 (by decide)
  have d5 : -134742016 ≤ 2 * (F 5) ∧ 2 * (F 5) ≤ 134742016 := by omega
  have n5 : -1280049152 ≤ 19 * (G 5) ∧ 19 * (G 5) ≤ 1280049152 := by omega
  have f6 : -134217728 ≤ F 6 ∧ F 6 ≤ 134217728 := hF 6 (by decide)
  have g6 : -134217728 ≤ G 6 ∧ G 6 ≤ 134217728 := hG 6 (by decide)
  have d6 : -268435456 ≤ 2 * (F 6) ∧ 2 * (F 6) ≤ 268435456 := by omega
  have n6 : -2550136832 ≤ 19 * (G 6) ∧ 19 * (G 6) ≤ 2550136832 := by omega
  have f7 : -67371008 ≤ F 7 ∧ F 7 ≤ 67371008 := hF 7 (by decide)
  have g7 : -67371008 ≤ G 7 ∧ G 7 ≤ 67371008 := hG 7 (by decide)
  have d7 : -134742016 ≤ 2 * (F 7) ∧ 2 * (F 7) ≤ 134742016 := by omega
  have n7 : -1280049152 ≤ 19 * (G 7) ∧ 19 * (G 7) ≤ 1280049152 := by omega
  have f8 : -134217728 ≤ F 8 ∧ F 8 ≤ 134217728 := hF 8 (by decide)
  have g8 : -134217728 ≤ G 8 ∧ G 8 ≤ 134217728 := hG 8 (by decide)
  have d8 : -268435456 ≤ 2 * (F 8) ∧ 2 * (F 8) ≤ 268435456 := by omega
  have n8 : -2550136832 ≤ 19 * (G 8) ∧ 19 * (G 8) ≤ 2550136832 := by omega
  have f9 : -67371008 ≤ F 9 ∧ F 9 ≤ 67371008 := hF 9 (by decide)
  have g9 : -67371008 ≤ G 9 ∧ G 9 ≤ 67371008 := hG 9 (by decide)
  have d9 : -134742016 ≤ 2 * (F 9) ∧ 2 * (F 9) ≤ 134742016 := by omega
  have n9 : -1280049152 ≤ 19 * (G 9) ∧ 19 * (G 9) ≤ 1280049152 := by omega
  intro i hi
  rcases (show i = 0 ∨ i = 1 ∨ i = 2 ∨ i = 3 ∨ i = 4 ∨ i = 5 ∨ i = 6 ∨ i = 7 ∨ i = 8 ∨ i = 9 by omega) with rfl | rfl | rfl | rfl | rfl | rfl | rfl | rfl | rfl | rfl
  · show -2 ^ 62 ≤ ((((((((((F 0) * (G 0)) + ((2 * (F 1)) * (19 * (G 9)))) + ((F 2) * (19 * (G 8)))) + ((2 * (F 3)) * (19 * (G 7)))) + ((F 4) * (19 * (G 6)))) + ((2 * (F 5)) * (19 * (G 5)))) + ((F 6) * (19 * (G 4)))) + ((2 * (F 7)) * (19 * (G 3)))) + ((F 8) * (19 * (G 2)))) + ((2 * (F 9)) * (19 * (G 1))) ∧ ((((((((((F 0) * (G 0)) + ((2 * (F 1)) * (19 * (G 9)))) + ((F 2) * (19 * (G 8)))) + ((2 * (F 3)) * (19 * (G 7)))) + ((F 4) * (19 * (G 6)))) + ((2 * (F 5)) * (19 * (G 5)))) + ((F 6) * (19 * (G 4)))) + ((2 * (F 7)) * (19 * (G 3)))) + ((F 8) * (19 * (G 2)))) + ((2 * (F 9)) * (19 * (G 1))) ≤ 2 ^ 62
    have t0 := mulB f0 g0
    have t1 := mulB d1 n9
    have t2 := mulB f2 n8
    have t3 := mulB d3 n7
    have t4 := mulB f4 n6
    have t5 := mulB d5 n5
    have t6 := mulB f6 n4
    have t7 := mulB d7 n3
    have t8 := mulB f8 n2
    have t9 := mulB d9 n1
    generalize (F 0) * (G 0) = p0 at t0 ⊢
    generalize (2 * (F 1)) * (19 * (G 9)) = p1 at t1 ⊢
    generalize (F 2) * (19 * (G 8)) = p2 at t2 ⊢
    generalize (2 * (F 3)) * (19 * (G 7)) = p3 at t3 ⊢
    generalize (F 4) * (19 * (G 6)) = p4 at t4 ⊢
    generalize (2 * (F 5)) * (19 * (G 5)) = p5 at t5 ⊢
    generalize (F 6) * (19 * (G 4)) = p6 at t6 ⊢
    generalize (2 * (F 7)) * (19 * (G 3)) = p7 at t7 ⊢
    generalize (F 8) * (19 * (G 2)) = p8 at t8 ⊢
    generalize (2 * (F 9)) * (19 * (G 1)) = p9 at t9 ⊢
    omega
  · show -2 ^ 62 ≤ ((((((((((F 0) * (G 1)) + ((F 1) * (G 0))) + ((F 2) * (19 * (G 9)))) + ((F 3) * (19 * (G 8)))) + ((F 4) * (19 * (G 7)))) + ((F 5) * (19 * (G 6)))) + ((F 6) * (19 * (G 5)))) + ((F 7) * (19 * (G 4)))) + ((F 8) * (19 * (G 3)))) + ((F 9) * (19 * (G 2))) ∧ ((((((((((F 0) * (G 1)) + ((F 1) * (G 0))) + ((F 2) * (19 * (G 9)))) + ((F 3) * (19 * (G 8)))) + ((F 4) * (19 * (G 7)))) + ((F 5) * (19 * (G 6)))) + ((F 6) * (19 * (G 5)))) + ((F 7) * (19 * (G 4)))) + ((F 8) * (19 * (G 3)))) + ((F 9) * (19 * (G 2))) ≤ 2 ^ 62
    have t0 := mulB f0 g1
    have t1 := mulB f1 g0
    have t2 := mulB f2 n9
    have t3 := mulB f3 n8
    have t4 := mulB f4 n7
    have t5 := mulB f5 n6
    have t6 := mulB f6 n5
    have t7 := mulB f7 n4
    have t8 := mulB f8 n3
    have t9 := mulB f9 n2
    generalize (F 0) * (G 1) = p0 at t0 ⊢
    generalize (F 1) * (G 0) = p1 at t1 ⊢
    generalize (F 2) * (19 * (G 9)) = p2 at t2 ⊢
    generalize (F 3) * (19 * (G 8)) = p3 at t3 ⊢
    generalize (F 4) * (19 * (G 7)) = p4 at t4 ⊢
    generalize (F 5) * (19 * (G 6)) = p5 at t5 ⊢
    generalize (F 6) * (19 * (G 5)) = p6 at t6 ⊢
    generalize (F 7) * (19 * (G 4)) = p7 at t7 ⊢
    generalize (F 8) * (19 * (G 3)) = p8 at t8 ⊢
    generalize (F 9) * (19 * (G 2)) = p9 at t9 ⊢
    omega
  · show -2 ^ 62 ≤ ((((((((((F 0) * (G 2)) + ((2 * (F 1)) * (G 1))) + ((F 2) * (G 0))) + ((2 * (F 3)) * (19 * (G 9)))) + ((F 4) * (19 * (G 8)))) + ((2 * (F 5)) * (19 * (G 7)))) + ((F 6) * (19 * (G 6)))) + ((2 * (F 7)) * (19 * (G 5)))) + ((F 8) * (19 * (G 4)))) + ((2 * (F 9)) * (19 * (G 3))) ∧ ((((((((((F 0) * (G 2)) + ((2 * (F 1)) * (G 1))) + ((F 2) * (G 0))) + ((2 * (F 3)) * (19 * (G 9)))) + ((F 4) * (19 * (G 8)))) + ((2 * (F 5)) * (19 * (G 7)))) + ((F 6) * (19 * (G 6)))) + ((2 * (F 7)) * (19 * (G 5)))) + ((F 8) * (19 * (G 4)))) + ((2 * (F 9)) * (19 * (G 3))) ≤ 2 ^ 62
    have t0 := mulB f0 g2
    have t1 := mulB d1 g1
    have t2 := mulB f2 g0
    have t3 := mulB d3 n9
    have t4 := mulB f4 n8
    have t5 := mulB d5 n7
    have t6 := mulB f6 n6
    have t7 := mulB d7 n5
    have t8 := mulB f8 n4
    have t9 := mulB d9 n3
    generalize (F 0) * (G 2) = p0 at t0 ⊢
    generalize (2 * (F 1)) * (G 1) = p1 at t1 ⊢
    generalize (F 2) * (G 0) = p2 at t2 ⊢
    generalize (2 * (F 3)) * (19 * (G 9)) = p3 at t3 ⊢
    generalize (F 4) * (19 * (G 8)) = p4 at t4 ⊢
    generalize (2 * (F 5)) * (19 * (G 7)) = p5 at t5 ⊢
    generalize (F 6) * (19 * (G 6)) = p6 at t6 ⊢
    generalize (2 * (F 7)) * (19 * (G 5)) = p7 at t7 ⊢
    generalize (F 8) * (19 * (G 4)) = p8 at t8 ⊢
    generalize (2 * (F 9)) * (19 * (G 3)) = p9 at t9 ⊢
    omega
  · show -2 ^ 62 ≤ ((((((((((F 0) * (G 3)) + ((F 1) * (G 2))) + ((F 2) * (G 1))) + ((F 3) * (G 0))) + ((F 4) * (19 * (G 9)))) + ((F 5) * (19 * (G 8)))) + ((F 6) * (19 * (G 7)))) + ((F 7) * (19 * (G 6)))) + ((F 8) * (19 * (G 5)))) + ((F 9) * (19 * (G 4))) ∧ ((((((((((F 0) * (G 3)) + ((F 1) * (G 2))) + ((F 2) * (G 1))) + ((F 3) * (G 0))) + ((F 4) * (19 * (G 9)))) + ((F 5) * (19 * (G 8)))) + ((F 6) * (19 * (G 7)))) + ((F 7) * (19 * (G 6)))) + ((F 8) * (19 * (G 5)))) + ((F 9) * (19 * (G 4))) ≤ 2 ^ 62
    have t0 := mulB f0 g3
    have t1 := mulB f1 g2
    have t2 := mulB f2 g1
    have t3 := mulB f3 g0
    have t4 := mulB f4 n9
    have t5 := mulB f5 n8
    have t6 := mulB f6 n7
    have t7 := mulB f7 n6
    have t8 := mulB f8 n5
    have t9 := mulB f9 n4
    generalize (F 0) * (G 3) = p0 at t0 ⊢
    generalize (F 1) * (G 2) = p1 at t1 ⊢
    generalize (F 2) * (G 1) = p2 at t2 ⊢
    generalize (F 3) * (G 0) = p3 at t3 ⊢
    generalize (F 4) * (19 * (G 9)) = p4 at t4 ⊢
    generalize (F 5) * (19 * (G 8)) = p5 at t5 ⊢
    generalize (F 6) * (19 * (G 7)) = p6 at t6 ⊢
    generalize (F 7) * (19 * (G 6)) = p7 at t7 ⊢
    generalize (F 8) * (19 * (G 5)) = p8 at t8 ⊢
    generalize (F 9) * (19 * (G 4)) = p9 at t9 ⊢
    omega
  · show -2 ^ 62 ≤ ((((((((((F 0) * (G 4)) + ((2 * (F 1)) * (G 3))) + ((F 2) * (G 2))) + ((2 * (F 3)) * (G 1))) + ((F 4) * (G 0))) + ((2 * (F 5)) * (19 * (G 9)))) + ((F 6) * (19 * (G 8)))) + ((2 * (F 7)) * (19 * (G 7)))) + ((F 8) * (19 * (G 6)))) + ((2 * (F 9)) * (19 * (G 5))) ∧ ((((((((((F 0) * (G 4)) + ((2 * (F 1)) * (G 3))) + ((F 2) * (G 2))) + ((2 * (F 3)) * (G 1))) + ((F 4) * (G 0))) + ((2 * (F 5)) * (19 * (G 9)))) + ((F 6) * (19 * (G 8)))) + ((2 * (F 7)) * (19 * (G 7)))) + ((F 8) * (19 * (G 6)))) + ((2 * (F 9)) * (19 * (G 5))) ≤ 2 ^ 62
    have t0 := mulB f0 g4
    have t1 := mulB d1 g3
    have t2 := mulB f2 g2
    have t3 := mulB d3 g1
    have t4 := mulB f4 g0
    have t5 := mulB d5 n9
    have t6 := mulB f6 n8
    have t7 := mulB d7 n7
    have t8 := mulB f8 n6
    have t9 := mulB d9 n5
    generalize (F 0) * (G 4) = p0 at t0 ⊢
    generalize (2 * (F 1)) * (G 3) = p1 at t1 ⊢
    generalize (F 2) * (G 2) = p2 at t2 ⊢
    generalize (2 * (F 3)) * (G 1) = p3 at t3 ⊢
    generalize (F 4) * (G 0) = p4 at t4 ⊢
    generalize (2 * (F 5)) * (19 * (G 9)) = p5 at t5 ⊢
    generalize (F 6) * (19 * (G 8)) = p6 at t6 ⊢
    generalize (2 * (F 7)) * (19 * (G 7)) = p7 at t7 ⊢
    generalize (F 8) * (19 * (G 6)) = p8 at t8 ⊢
    generalize (2 * (F 9)) * (19 * (G 5)) = p9 at t9 ⊢
    omega
  · show -2 ^ 62 ≤ ((((((((((F 0) * (G 5)) + ((F 1) * (G 4))) + ((F 2) * (G 3))) + ((F 3) * (G 2))) + ((F 4) * (G 1))) + ((F 5) * (G 0))) + ((F 6) * (19 * (G 9)))) + ((F 7) * (19 * (G 8)))) + ((F 8) * (19 * (G 7)))) + ((F 9) * (19 * (G 6))) ∧ ((((((((((F 0) * (G 5)) + ((F 1) * (G 4))) + ((F 2) * (G 3))) + ((F 3) * (G 2))) + ((F 4) * (G 1))) + ((F 5) * (G 0))) + ((F 6) * (19 * (G 9)))) + ((F 7) * (19 * (G 8)))) + ((F 8) * (19 * (G 7)))) + ((F 9) * (19 * (G 6))) ≤ 2 ^ 62
    have t0 := mulB f0 g5
    have t1 := mulB f1 g4
    have t2 := mulB f2 g3
    have t3 := mulB f3 g2
    have t4 := mulB f4 g1
    have t5 := mulB f5 g0
    have t6 := mulB f6 n9
    have t7 := mulB f7 n8
    have t8 := mulB f8 n7
    have t9 := mulB f9 n6
    generalize (F 0) * (G 5) = p0 at t0 ⊢
    generalize (F 1) * (G 4) = p1 at t1 ⊢
    generalize (F 2) * (G 3) = p2 at t2 ⊢
    generalize (F 3) * (G 2) = p3 at t3 ⊢
    generalize (F 4) * (G 1) = p4 at t4 ⊢
    generalize (F 5) * (G 0) = p5 at t5 ⊢
    generalize (F 6) * (19 * (G 9)) = p6 at t6 ⊢
    generalize (F 7) * (19 * (G 8)) = p7 at t7 ⊢
    generalize (F 8) * (19 * (G 7)) = p8 at t8 ⊢
    generalize (F 9) * (19 * (G 6)) = p9 at t9 ⊢
    omega
  · show -2 ^ 62 ≤ ((((((((((F 0) * (G 6)) + ((2 * (F 1)) * (G 5))) + ((F 2) * (G 4))) + ((2 * (F 3)) * (G 3))) + ((F 4) * (G 2))) + ((2 * (F 5)) * (G 1))) + ((F 6) * (G 0))) + ((2 * (F 7)) * (19 * (G 9)))) + ((F 8) * (19 * (G 8)))) + ((2 * (F 9)) * (19 * (G 7))) ∧ ((((((((((F 0) * (G 6)) + ((2 * (F 1)) * (G 5))) + ((F 2) * (G 4))) + ((2 * (F 3)) * (G 3))) + ((F 4) * (G 2))) + ((2 * (F 5)) * (G 1))) + ((F 6) * (G 0))) + ((2 * (F 7)) * (19 * (G 9)))) + ((F 8) * (19 * (G 8)))) + ((2 * (F 9)) * (19 * (G 7))) ≤ 2 ^ 62
    have t0 := mulB f0 g6
    have t1 := mulB d1 g5
    have t2 := mulB f2 g4
    have t3 := mulB d3 g3
    have t4 := mulB f4 g2
    have t5 := mulB d5 g1
    have t6 := mulB f6 g0
    have t7 := mulB d7 n9
    have t8 := mulB f8 n8
    have t9 := mulB d9 n7
    generalize (F 0) * (G 6) = p0 at t0 ⊢
    generalize (2 * (F 1)) * (G 5) = p1 at t1 ⊢
    generalize (F 2) * (G 4) = p2 at t2 ⊢
    generalize (2 * (F 3)) * (G 3) = p3 at t3 ⊢
    generalize (F 4) * (G 2) = p4 at t4 ⊢
    generalize (2 * (F 5)) * (G 1) = p5 at t5 ⊢
    generalize (F 6) * (G 0) = p6 at t6 ⊢
    generalize (2 * (F 7)) * (19 * (G 9)) = p7 at t7 ⊢
    generalize (F 8) * (19 * (G 8)) = p8 at t8 ⊢
    generalize (2 * (F 9)) * (19 * (G 7)) = p9 at t9 ⊢
    omega
  · show -2 ^ 62 ≤ ((((((((((F 0) * (G 7)) + ((F 1) * (G 6))) + ((F 2) * (G 5))) + ((F 3) * (G 4))) + ((F 4) * (G 3))) + ((F 5) * (G 2))) + ((F 6) * (G 1))) + ((F 7) * (G 0))) + ((F 8) * (19 * (G 9)))) + ((F 9) * (19 * (G 8))) ∧ ((((((((((F 0) * (G 7)) + ((F 1) * (G 6))) + ((F 2) * (G 5))) + ((F 3) * (G 4))) + ((F 4) * (G 3))) + ((F 5) * (G 2))) + ((F 6) * (G 1))) + ((F 7) * (G 0))) + ((F 8) * (19 * (G 9)))) + ((F 9) * (19 * (G 8))) ≤ 2 ^ 62
    have t0 := mulB f0 g7
    have t1 := mulB f1 g6
    have t2 := mulB f2 g5
    have t3 := mulB f3 g4
    have t4 := mulB f4 g3
    have t5 := mulB f5 g2
    have t6 := mulB f6 g1
    have t7 := mulB f7 g0
    have t8 := mulB f8 n9
    have t9 := mulB f9 n8
    generalize (F 0) * (G 7) = p0 at t0 ⊢
    generalize (F 1) * (G 6) = p1 at t1 ⊢
    generalize (F 2) * (G 5) = p2 at t2 ⊢
    generalize (F 3) * (G 4) = p3 at t3 ⊢
    generalize (F 4) * (G 3) = p4 at t4 ⊢
    generalize (F 5) * (G 2) = p5 at t5 ⊢
    generalize (F 6) * (G 1) = p6 at t6 ⊢
    generalize (F 7) * (G 0) = p7 at t7 ⊢
    generalize (F 8) * (19 * (G 9)) = p8 at t8 ⊢
    generalize (F 9) * (19 * (G 8)) = p9 at t9 ⊢
    omega
  · show -2 ^ 62 ≤ ((((((((((F 0) * (G 8)) + ((2 * (F 1)) * (G 7))) + ((F 2) * (G 6))) + ((2 * (F 3)) * (G 5))) + ((F 4) * (G 4))) + ((2 * (F 5)) * (G 3))) + ((F 6) * (G 2))) + ((2 * (F 7)) * (G 1))) + ((F 8) * (G 0))) + ((2 * (F 9)) * (19 * (G 9))) ∧ ((((((((((F 0) * (G 8)) + ((2 * (F 1)) * (G 7))) + ((F 2) * (G 6))) + ((2 * (F 3)) * (G 5))) + ((F 4) * (G 4))) + ((2 * (F 5)) * (G 3))) + ((F 6) * (G 2))) + ((2 * (F 7)) * (G 1))) + ((F 8) * (G 0))) + ((2 * (F 9)) * (19 * (G 9))) ≤ 2 ^ 62
    have t0 := mulB f0 g8
    have t1 := mulB d1 g7
    have t2 := mulB f2 g6
    have t3 := mulB d3 g5
    have t4 := mulB f4 g4
    have t5 := mulB d5 g3
    have t6 := mulB f6 g2
    have t7 := mulB d7 g1
    have t8 := mulB f8 g0
    have t9 := mulB d9 n9
    generalize (F 0) * (G 8) = p0 at t0 ⊢
    generalize (2 * (F 1)) * (G 7) = p1 at t1 ⊢
    generalize (F 2) * (G 6) = p2 at t2 ⊢
    generalize (2 * (F 3)) * (G 5) = p3 at t3 ⊢
    generalize (F 4) * (G 4) = p4 at t4 ⊢
    generalize (2 * (F 5)) * (G 3) = p5 at t5 ⊢
    generalize (F 6) * (G 2) = p6 at t6 ⊢
    generalize (2 * (F 7)) * (G 1) = p7 at t7 ⊢
    generalize (F 8) * (G 0) = p8 at t8 ⊢
    generalize (2 * (F 9)) * (19 * (G 9)) = p9 at t9 ⊢
    omega
  · show -2 ^ 62 ≤ ((((((((((F 0) * (G 9)) + ((F 1) * (G 8))) + ((F 2) * (G 7))) + ((F 3) * (G 6))) + ((F 4) * (G 5))) + ((F 5) * (G 4))) + ((F 6) * (G 3))) + ((F 7) * (G 2))) + ((F 8) * (G 1))) + ((F 9) * (G 0)) ∧ ((((((((((F 0) * (G 9)) + ((F 1) * (G 8))) + ((F 2) * (G 7))) + ((F 3) * (G 6))) + ((F 4) * (G 5))) + ((F 5) * (G 4))) + ((F 6) * (G 3))) + ((F 7) * (G 2))) + ((F 8) * (G 1))) + ((F 9) * (G 0)) ≤ 2 ^ 62
    have t0 := mulB f0 g9
    have t1 := mulB f1 g8
    have t2 := mulB f2 g7
    have t3 := mulB f3 g6
    have t4 := mulB f4 g5
    have t5 := mulB f5 g4
    have t6 := mulB f6 g3
    have t7 := mulB f7 g2
    have t8 := mulB f8 g1
    have t9 := mulB f9 g0
    generalize (F 0) * (G 9) = p0 at t0 ⊢
    generalize (F 1) * (G 8) = p1 at t1 ⊢
    generalize (F 2) * (G 7) = p2 at t2 ⊢
    generalize (F 3) * (G 6) = p3 at t3 ⊢
    generalize (F 4) * (G 5) = p4 at t4 ⊢
    generalize (F 5) * (G 4) = p5 at t5 ⊢
    generalize (F 6) * (G 3) = p6 at t6 ⊢
    generalize (F 7) * (G 2) = p7 at t7 ⊢
    generalize (F 8) * (G 1) = p8 at t8 ⊢
    generalize (F 9) * (G 0) = p9 at t9 ⊢
    omega
set_option maxHeartbeats 4000000 in
set_option maxRecDepth 100000 in
theorem ok_X1_multiply {l : Launch} {a0 : Nat} {D : va_G} {sa : Nat → Nat} {T : Nat → Option hKd} {I : Nat → Nat → Int32} {L : Nat → Nat → Int64} {R : Nat → Nat → Option Nat} {A : Nat → Nat} (f g o : Nat) (F G : Nat → Int) (hTf : T f = some (.inl (.long, 10))) (hTg : T g = some (.inl (.long, 10))) (hTo : T o = some (.inl (.long, 10))) (ho0 : a0 ≤ A o) (hF : ∀ j, j < 10 → L f j = lZ (F j)) (hG : ∀ j, j < 10 → L g j = lZ (G j)) (hWF : cvW F) (hWG : cvW G) : hM l a0 D sa yX1_multiply cX1_multiply 71 none { frames := 2, cells := 0, slots := 0, locals := 46 } [.ref (A f), .ref (A g), .ref (A o)] (T, I, L, R, A) (fun r G' => r = none ∧ ∃ L', G' = (T, I, L', R, A) ∧ (∀ j, j < 10 → L' o j = lZ (cvCar (cvMul F G) j)) ∧ ∀ q, q ≠ o → L' q = L q) := by
  refine hM.of (by decide +kernel) (Nat.le_of_ble_eq_true rfl) ?_
  intro z hl h0 hD hS hN C E
  subst hl; subst h0; subst hD; subst hS
  have C : hC z RX1 cX1_multiply := C
  have hZ := E.2.2.2.1
  show hX z 0 0 (T, I, L, R, A) [(0, .ref (A f)), (1, .ref (A g)), (2, .ref (A o))] 0 []
  refine x_aload_n C dX1_multiply_0 0 rfl rfl ?_
  refine x_iconst (v := nI 0) C dX1_multiply_1 (by decide +kernel) ?_
  refine x_laldN C hTf (by omega) (by omega) dX1_multiply_2 ?_
  refine x_eql (y := lZ (F 0)) (hF 0 (by decide)) ?_
  refine x_lstore_n (lv' := [(3, .long (lZ (F 0))), (0, .ref (A f)), (1, .ref (A g)), (2, .ref (A o))]) C dX1_multiply_3 rfl (Nat.lt_of_lt_of_eq (by decide) hN.symm) rfl ?_
  refine x_aload_n C dX1_multiply_4 1 rfl rfl ?_
  refine x_iconst (v := nI 1) C dX1_multiply_5 (by decide +kernel) ?_
  refine x_laldN C hTf (by omega) (by omega) dX1_multiply_6 ?_
  refine x_eql (y := lZ (F 1)) (hF 1 (by decide)) ?_
  refine x_lstore (lv' := [(5, .long (lZ (F 1))), (3, .long (lZ (F 0))), (0, .ref (A f)), (1, .ref (A g)), (2, .ref (A o))]) C dX1_multiply_7 (Nat.lt_of_lt_of_eq (by decide) hN.symm) rfl ?_
  refine x_aload_n C dX1_multiply_9 2 rfl rfl ?_
  refine x_iconst (v := nI 2) C dX1_multiply_10 (by decide +kernel) ?_
  refine x_laldN C hTf (by omega) (by omega) dX1_multiply_11 ?_
  refine x_eql (y := lZ (F 2)) (hF 2 (by decide)) ?_
  refine x_lstore (lv' := [(7, .long (lZ (F 2))), (5, .long (lZ (F 1))), (3, .long (lZ (F 0))), (0, .ref (A f)), (1, .ref (A g)), (2, .ref (A o))]) C dX1_multiply_12 (Nat.lt_of_lt_of_eq (by decide) hN.symm) rfl ?_
  refine x_aload_n C dX1_multiply_14 3 rfl rfl ?_
  refine x_iconst (v := nI 3) C dX1_multiply_15 (by decide +kernel) ?_
  refine x_laldN C hTf (by omega) (by omega) dX1_multiply_16 ?_
  refine x_eql (y := lZ (F 3)) (hF 3 (by decide)) ?_
  refine x_lstore (lv' := [(9, .long (lZ (F 3))), (7, .long (lZ (F 2))), (5, .long (lZ (F 1))), (3, .long (lZ (F 0))), (0, .ref (A f)), (1, .ref (A g)), (2, .ref (A o))]) C dX1_multiply_17 (Nat.lt_of_lt_of_eq (by decide) hN.symm) rfl ?_
  refine x_aload_n C dX1_multiply_19 4 rfl rfl ?_
  refine x_iconst (v := nI 4) C dX1_multiply_20 (by decide +kernel) ?_
  refine x_laldN C hTf (by omega) (by omega) dX1_multiply_21 ?_
  refine x_eql (y := lZ (F 4)) (hF 4 (by decide)) ?_
  refine x_lstore (lv' := [(11, .long (lZ (F 4))), (9, .long (lZ (F 3))), (7, .long (lZ (F 2))), (5, .long (lZ (F 1))), (3, .long (lZ (F 0))), (0, .ref (A f)), (1, .ref (A g)), (2, .ref (A o))]) C dX1_multiply_22 (Nat.lt_of_lt_of_eq (by decide) hN.symm) rfl ?_
  refine x_aload_n C dX1_multiply_24 5 rfl rfl ?_
  refine x_iconst (v := nI 5) C dX1_multiply_25 (by decide +kernel) ?_
  refine x_laldN C hTf (by omega) (by omega) dX1_multiply_26 ?_
  refine x_eql (y := lZ (F 5)) (hF 5 (by decide)) ?_
  refine x_lstore (lv' := [(13, .long (lZ (F 5))), (11, .long (lZ (F 4))), (9, .long (lZ (F 3))), (7, .long (lZ (F 2))), (5, .long (lZ (F 1))), (3, .long (lZ (F 0))), (0, .ref (A f)), (1, .ref (A g)), (2, .ref (A o))]) C dX1_multiply_27 (Nat.lt_of_lt_of_eq (by decide) hN.symm) rfl ?_
  refine x_aload_n C dX1_multiply_29 6 rfl rfl ?_
  refine x_bipush (v := nI 6) C dX1_multiply_30 (by decide +kernel) ?_
  refine x_laldN C hTf (by omega) (by omega) dX1_multiply_32 ?_
  refine x_eql (y := lZ (F 6)) (hF 6 (by decide)) ?_
  refine x_lstore (lv' := [(15, .long (lZ (F 6))), (13, .long (lZ (F 5))), (11, .long (lZ (F 4))), (9, .long (lZ (F 3))), (7, .long (lZ (F 2))), (5, .long (lZ (F 1))), (3, .long (lZ (F 0))), (0, .ref (A f)), (1, .ref (A g)), (2, .ref (A o))]) C dX1_multiply_33 (Nat.lt_of_lt_of_eq (by decide) hN.symm) rfl ?_
  refine x_aload_n C dX1_multiply_35 7 rfl rfl ?_
  refine x_bipush (v := nI 7) C dX1_multiply_36 (by decide +kernel) ?_
  refine x_laldN C hTf (by omega) (by omega) dX1_multiply_38 ?_
  refine x_eql (y := lZ (F 7)) (hF 7 (by decide)) ?_
  refine x_lstore (lv' := [(17, .long (lZ (F 7))), (15, .long (lZ (F 6))), (13, .long (lZ (F 5))), (11, .long (lZ (F 4))), (9, .long (lZ (F 3))), (7, .long (lZ (F 2))), (5, .long (lZ (F 1))), (3, .long (lZ (F 0))), (0, .ref (A f)), (1, .ref (A g)), (2, .ref (A o))]) C dX1_multiply_39 (Nat.lt_of_lt_of_eq (by decide) hN.symm) rfl ?_
  refine x_aload_n C dX1_multiply_41 8 rfl rfl ?_
  refine x_bipush (v := nI 8) C dX1_multiply_42 (by decide +kernel) ?_
  refine x_laldN C hTf (by omega) (by omega) dX1_multiply_44 ?_
  refine x_eql (y := lZ (F 8)) (hF 8 (by decide)) ?_
  refine x_lstore (lv' := [(19, .long (lZ (F 8))), (17, .long (lZ (F 7))), (15, .long (lZ (F 6))), (13, .long (lZ (F 5))), (11, .long (lZ (F 4))), (9, .long (lZ (F 3))), (7, .long (lZ (F 2))), (5, .long (lZ (F 1))), (3, .long (lZ (F 0))), (0, .ref (A f)), (1, .ref (A g)), (2, .ref (A o))]) C dX1_multiply_45 (Nat.lt_of_lt_of_eq (by decide) hN.symm) rfl ?_
  refine x_aload_n C dX1_multiply_47 9 rfl rfl ?_
  refine x_bipush (v := nI 9) C dX1_multiply_48 (by decide +kernel) ?_
  refine x_laldN C hTf (by omega) (by omega) dX1_multiply_50 ?_
  refine x_eql (y := lZ (F 9)) (hF 9 (by decide)) ?_
  refine x_lstore (lv' := [(21, .long (lZ (F 9))), (19, .long (lZ (F 8))), (17, .long (lZ (F 7))), (15, .long (lZ (F 6))), (13, .long (lZ (F 5))), (11, .long (lZ (F 4))), (9, .long (lZ (F 3))), (7, .long (lZ (F 2))), (5, .long (lZ (F 1))), (3, .long (lZ (F 0))), (0, .ref (A f)), (1, .ref (A g)), (2, .ref (A o))]) C dX1_multiply_51 (Nat.lt_of_lt_of_eq (by decide) hN.symm) rfl ?_
  refine x_aload_n C dX1_multiply_53 11 rfl rfl ?_
  refine x_iconst (v := nI 0) C dX1_multiply_54 (by decide +kernel) ?_
  refine x_laldN C hTg (by omega) (by omega) dX1_multiply_55 ?_
  refine x_eql (y := lZ (G 0)) (hG 0 (by decide)) ?_
  refine x_lstore (lv' := [(23, .long (lZ (G 0))), (21, .long (lZ (F 9))), (19, .long (lZ (F 8))), (17, .long (lZ (F 7))), (15, .long (lZ (F 6))), (13, .long (lZ (F 5))), (11, .long (lZ (F 4))), (9, .long (lZ (F 3))), (7, .long (lZ (F 2))), (5, .long (lZ (F 1))), (3, .long (lZ (F 0))), (0, .ref (A f)), (1, .ref (A g)), (2, .ref (A o))]) C dX1_multiply_56 (Nat.lt_of_lt_of_eq (by decide) hN.symm) rfl ?_
  refine x_aload_n C dX1_multiply_58 12 rfl rfl ?_
  refine x_iconst (v := nI 1) C dX1_multiply_59 (by decide +kernel) ?_
  refine x_laldN C hTg (by omega) (by omega) dX1_multiply_60 ?_
  refine x_eql (y := lZ (G 1)) (hG 1 (by decide)) ?_
  refine x_lstore (lv' := [(25, .long (lZ (G 1))), (23, .long (lZ (G 0))), (21, .long (lZ (F 9))), (19, .long (lZ (F 8))), (17, .long (lZ (F 7))), (15, .long (lZ (F 6))), (13, .long (lZ (F 5))), (11, .long (lZ (F 4))), (9, .long (lZ (F 3))), (7, .long (lZ (F 2))), (5, .long (lZ (F 1))), (3, .long (lZ (F 0))), (0, .ref (A f)), (1, .ref (A g)), (2, .ref (A o))]) C dX1_multiply_61 (Nat.lt_of_lt_of_eq (by decide) hN.symm) rfl ?_
  refine x_aload_n C dX1_multiply_63 13 rfl rfl ?_
  refine x_iconst (v := nI 2) C dX1_multiply_64 (by decide +kernel) ?_
  refine x_laldN C hTg (by omega) (by omega) dX1_multiply_65 ?_
  refine x_eql (y := lZ (G 2)) (hG 2 (by decide)) ?_
  refine x_lstore (lv' := [(27, .long (lZ (G 2))), (25, .long (lZ (G 1))), (23, .long (lZ (G 0))), (21, .long (lZ (F 9))), (19, .long (lZ (F 8))), (17, .long (lZ (F 7))), (15, .long (lZ (F 6))), (13, .long (lZ (F 5))), (11, .long (lZ (F 4))), (9, .long (lZ (F 3))), (7, .long (lZ (F 2))), (5, .long (lZ (F 1))), (3, .long (lZ (F 0))), (0, .ref (A f)), (1, .ref (A g)), (2, .ref (A o))]) C dX1_multiply_66 (Nat.lt_of_lt_of_eq (by decide) hN.symm) rfl ?_
  refine x_aload_n C dX1_multiply_68 14 rfl rfl ?_
  refine x_iconst (v := nI 3) C dX1_multiply_69 (by decide +kernel) ?_
  refine x_laldN C hTg (by omega) (by omega) dX1_multiply_70 ?_
  refine x_eql (y := lZ (G 3)) (hG 3 (by decide)) ?_
  refine x_lstore (lv' := [(29, .long (lZ (G 3))), (27, .long (lZ (G 2))), (25, .long (lZ (G 1))), (23, .long (lZ (G 0))), (21, .long (lZ (F 9))), (19, .long (lZ (F 8))), (17, .long (lZ (F 7))), (15, .long (lZ (F 6))), (13, .long (lZ (F 5))), (11, .long (lZ (F 4))), (9, .long (lZ (F 3))), (7, .long (lZ (F 2))), (5, .long (lZ (F 1))), (3, .long (lZ (F 0))), (0, .ref (A f)), (1, .ref (A g)), (2, .ref (A o))]) C dX1_multiply_71 (Nat.lt_of_lt_of_eq (by decide) hN.symm) rfl ?_
  refine x_aload_n C dX1_multiply_73 15 rfl rfl ?_
  refine x_iconst (v := nI 4) C dX1_multiply_74 (by decide +kernel) ?_
  refine x_laldN C hTg (by omega) (by omega) dX1_multiply_75 ?_
  refine x_eql (y := lZ (G 4)) (hG 4 (by decide)) ?_
  refine x_lstore (lv' := [(31, .long (lZ (G 4))), (29, .long (lZ (G 3))), (27, .long (lZ (G 2))), (25, .long (lZ (G 1))), (23, .long (lZ (G 0))), (21, .long (lZ (F 9))), (19, .long (lZ (F 8))), (17, .long (lZ (F 7))), (15, .long (lZ (F 6))), (13, .long (lZ (F 5))), (11, .long (lZ (F 4))), (9, .long (lZ (F 3))), (7, .long (lZ (F 2))), (5, .long (lZ (F 1))), (3, .long (lZ (F 0))), (0, .ref (A f)), (1, .ref (A g)), (2, .ref (A o))]) C dX1_multiply_76 (Nat.lt_of_lt_of_eq (by decide) hN.symm) rfl ?_
  refine x_aload_n C dX1_multiply_78 16 rfl rfl ?_
  refine x_iconst (v := nI 5) C dX1_multiply_79 (by decide +kernel) ?_
  refine x_laldN C hTg (by omega) (by omega) dX1_multiply_80 ?_
  refine x_eql (y := lZ (G 5)) (hG 5 (by decide)) ?_
  refine x_lstore (lv' := [(33, .long (lZ (G 5))), (31, .long (lZ (G 4))), (29, .long (lZ (G 3))), (27, .long (lZ (G 2))), (25, .long (lZ (G 1))), (23, .long (lZ (G 0))), (21, .long (lZ (F 9))), (19, .long (lZ (F 8))), (17, .long (lZ (F 7))), (15, .long (lZ (F 6))), (13, .long (lZ (F 5))), (11, .long (lZ (F 4))), (9, .long (lZ (F 3))), (7, .long (lZ (F 2))), (5, .long (lZ (F 1))), (3, .long (lZ (F 0))), (0, .ref (A f)), (1, .ref (A g)), (2, .ref (A o))]) C dX1_multiply_81 (Nat.lt_of_lt_of_eq (by decide) hN.symm) rfl ?_
  refine x_aload_n C dX1_multiply_83 17 rfl rfl ?_
  refine x_bipush (v := nI 6) C dX1_multiply_84 (by decide +kernel) ?_
  refine x_laldN C hTg (by omega) (by omega) dX1_multiply_86 ?_
  refine x_eql (y := lZ (G 6)) (hG 6 (by decide)) ?_
  refine x_lstore (lv' := [(35, .long (lZ (G 6))), (33, .long (lZ (G 5))), (31, .long (lZ (G 4))), (29, .long (lZ (G 3))), (27, .long (lZ (G 2))), (25, .long (lZ (G 1))), (23, .long (lZ (G 0))), (21, .long (lZ (F 9))), (19, .long (lZ (F 8))), (17, .long (lZ (F 7))), (15, .long (lZ (F 6))), (13, .long (lZ (F 5))), (11, .long (lZ (F 4))), (9, .long (lZ (F 3))), (7, .long (lZ (F 2))), (5, .long (lZ (F 1))), (3, .long (lZ (F 0))), (0, .ref (A f)), (1, .ref (A g)), (2, .ref (A o))]) C dX1_multiply_87 (Nat.lt_of_lt_of_eq (by decide) hN.symm) rfl ?_
  refine x_aload_n C dX1_multiply_89 18 rfl rfl ?_
  refine x_bipush (v := nI 7) C dX1_multiply_90 (by decide +kernel) ?_
  refine x_laldN C hTg (by omega) (by omega) dX1_multiply_92 ?_
  refine x_eql (y := lZ (G 7)) (hG 7 (by decide)) ?_
  refine x_lstore (lv' := [(37, .long (lZ (G 7))), (35, .long (lZ (G 6))), (33, .long (lZ (G 5))), (31, .long (lZ (G 4))), (29, .long (lZ (G 3))), (27, .long (lZ (G 2))), (25, .long (lZ (G 1))), (23, .long (lZ (G 0))), (21, .long (lZ (F 9))), (19, .long (lZ (F 8))), (17, .long (lZ (F 7))), (15, .long (lZ (F 6))), (13, .long (lZ (F 5))), (11, .long (lZ (F 4))), (9, .long (lZ (F 3))), (7, .long (lZ (F 2))), (5, .long (lZ (F 1))), (3, .long (lZ (F 0))), (0, .ref (A f)), (1, .ref (A g)), (2, .ref (A o))]) C dX1_multiply_93 (Nat.lt_of_lt_of_eq (by decide) hN.symm) rfl ?_
  refine x_aload_n C dX1_multiply_95 19 rfl rfl ?_
  refine x_bipush (v := nI 8) C dX1_multiply_96 (by decide +kernel) ?_
  refine x_laldN C hTg (by omega) (by omega) dX1_multiply_98 ?_
  refine x_eql (y := lZ (G 8)) (hG 8 (by decide)) ?_
  refine x_lstore (lv' := [(39, .long (lZ (G 8))), (37, .long (lZ (G 7))), (35, .long (lZ (G 6))), (33, .long (lZ (G 5))), (31, .long (lZ (G 4))), (29, .long (lZ (G 3))), (27, .long (lZ (G 2))), (25, .long (lZ (G 1))), (23, .long (lZ (G 0))), (21, .long (lZ (F 9))), (19, .long (lZ (F 8))), (17, .long (lZ (F 7))), (15, .long (lZ (F 6))), (13, .long (lZ (F 5))), (11, .long (lZ (F 4))), (9, .long (lZ (F 3))), (7, .long (lZ (F 2))), (5, .long (lZ (F 1))), (3, .long (lZ (F 0))), (0, .ref (A f)), (1, .ref (A g)), (2, .ref (A o))]) C dX1_multiply_99 (Nat.lt_of_lt_of_eq (by decide) hN.symm) rfl ?_
  refine x_aload_n C dX1_multiply_101 20 rfl rfl ?_
  refine x_bipush (v := nI 9) C dX1_multiply_102 (by decide +kernel) ?_
  refine x_laldN C hTg (by omega) (by omega) dX1_multiply_104 ?_
  refine x_eql (y := lZ (G 9)) (hG 9 (by decide)) ?_
  refine x_lstore (lv' := [(41, .long (lZ (G 9))), (39, .long (lZ (G 8))), (37, .long (lZ (G 7))), (35, .long (lZ (G 6))), (33, .long (lZ (G 5))), (31, .long (lZ (G 4))), (29, .long (lZ (G 3))), (27, .long (lZ (G 2))), (25, .long (lZ (G 1))), (23, .long (lZ (G 0))), (21, .long (lZ (F 9))), (19, .long (lZ (F 8))), (17, .long (lZ (F 7))), (15, .long (lZ (F 6))), (13, .long (lZ (F 5))), (11, .long (lZ (F 4))), (9, .long (lZ (F 3))), (7, .long (lZ (F 2))), (5, .long (lZ (F 1))), (3, .long (lZ (F 0))), (0, .ref (A f)), (1, .ref (A g)), (2, .ref (A o))]) C dX1_multiply_105 (Nat.lt_of_lt_of_eq (by decide) hN.symm) rfl ?_
  refine x_ldc2 C dX1_multiply_107 kc_X1_94 ?_
  refine x_eql (y := lZ 2) (lZ_lit 2) ?_
  refine x_lload C dX1_multiply_110 18 rfl ?_
  refine x_lmulZ C dX1_multiply_112 ?_
  refine x_lstore (lv' := [(43, .long (lZ (2 * (F 1)))), (41, .long (lZ (G 9))), (39, .long (lZ (G 8))), (37, .long (lZ (G 7))), (35, .long (lZ (G 6))), (33, .long (lZ (G 5))), (31, .long (lZ (G 4))), (29, .long (lZ (G 3))), (27, .long (lZ (G 2))), (25, .long (lZ (G 1))), (23, .long (lZ (G 0))), (21, .long (lZ (F 9))), (19, .long (lZ (F 8))), (17, .long (lZ (F 7))), (15, .long (lZ (F 6))), (13, .long (lZ (F 5))), (11, .long (lZ (F 4))), (9, .long (lZ (F 3))), (7, .long (lZ (F 2))), (5, .long (lZ (F 1))), (3, .long (lZ (F 0))), (0, .ref (A f)), (1, .ref (A g)), (2, .ref (A o))]) C dX1_multiply_113 (Nat.lt_of_lt_of_eq (by decide) hN.symm) rfl ?_
  refine x_ldc2 C dX1_multiply_115 kc_X1_94 ?_
  refine x_eql (y := lZ 2) (lZ_lit 2) ?_
  refine x_lload C dX1_multiply_118 17 rfl ?_
  refine x_lmulZ C dX1_multiply_120 ?_
  refine x_lstore (lv' := [(45, .long (lZ (2 * (F 3)))), (43, .long (lZ (2 * (F 1)))), (41, .long (lZ (G 9))), (39, .long (lZ (G 8))), (37, .long (lZ (G 7))), (35, .long (lZ (G 6))), (33, .long (lZ (G 5))), (31, .long (lZ (G 4))), (29, .long (lZ (G 3))), (27, .long (lZ (G 2))), (25, .long (lZ (G 1))), (23, .long (lZ (G 0))), (21, .long (lZ (F 9))), (19, .long (lZ (F 8))), (17, .long (lZ (F 7))), (15, .long (lZ (F 6))), (13, .long (lZ (F 5))), (11, .long (lZ (F 4))), (9, .long (lZ (F 3))), (7, .long (lZ (F 2))), (5, .long (lZ (F 1))), (3, .long (lZ (F 0))), (0, .ref (A f)), (1, .ref (A g)), (2, .ref (A o))]) C dX1_multiply_121 (Nat.lt_of_lt_of_eq (by decide) hN.symm) rfl ?_
  refine x_ldc2 C dX1_multiply_123 kc_X1_94 ?_
  refine x_eql (y := lZ 2) (lZ_lit 2) ?_
  refine x_lload C dX1_multiply_126 16 rfl ?_
  refine x_lmulZ C dX1_multiply_128 ?_
  refine x_lstore (lv' := [(47, .long (lZ (2 * (F 5)))), (45, .long (lZ (2 * (F 3)))), (43, .long (lZ (2 * (F 1)))), (41, .long (lZ (G 9))), (39, .long (lZ (G 8))), (37, .long (lZ (G 7))), (35, .long (lZ (G 6))), (33, .long (lZ (G 5))), (31, .long (lZ (G 4))), (29, .long (lZ (G 3))), (27, .long (lZ (G 2))), (25, .long (lZ (G 1))), (23, .long (lZ (G 0))), (21, .long (lZ (F 9))), (19, .long (lZ (F 8))), (17, .long (lZ (F 7))), (15, .long (lZ (F 6))), (13, .long (lZ (F 5))), (11, .long (lZ (F 4))), (9, .long (lZ (F 3))), (7, .long (lZ (F 2))), (5, .long (lZ (F 1))), (3, .long (lZ (F 0))), (0, .ref (A f)), (1, .ref (A g)), (2, .ref (A o))]) C dX1_multiply_129 (Nat.lt_of_lt_of_eq (by decide) hN.symm) rfl ?_
  refine x_ldc2 C dX1_multiply_131 kc_X1_94 ?_
  refine x_eql (y := lZ 2) (lZ_lit 2) ?_
  refine x_lload C dX1_multiply_134 15 rfl ?_
  refine x_lmulZ C dX1_multiply_136 ?_
  refine x_lstore (lv' := [(49, .long (lZ (2 * (F 7)))), (47, .long (lZ (2 * (F 5)))), (45, .long (lZ (2 * (F 3)))), (43, .long (lZ (2 * (F 1)))), (41, .long (lZ (G 9))), (39, .long (lZ (G 8))), (37, .long (lZ (G 7))), (35, .long (lZ (G 6))), (33, .long (lZ (G 5))), (31, .long (lZ (G 4))), (29, .long (lZ (G 3))), (27, .long (lZ (G 2))), (25, .long (lZ (G 1))), (23, .long (lZ (G 0))), (21, .long (lZ (F 9))), (19, .long (lZ (F 8))), (17, .long (lZ (F 7))), (15, .long (lZ (F 6))), (13, .long (lZ (F 5))), (11, .long (lZ (F 4))), (9, .long (lZ (F 3))), (7, .long (lZ (F 2))), (5, .long (lZ (F 1))), (3, .long (lZ (F 0))), (0, .ref (A f)), (1, .ref (A g)), (2, .ref (A o))]) C dX1_multiply_137 (Nat.lt_of_lt_of_eq (by decide) hN.symm) rfl ?_
  refine x_ldc2 C dX1_multiply_139 kc_X1_94 ?_
  refine x_eql (y := lZ 2) (lZ_lit 2) ?_
  refine x_lload C dX1_multiply_142 14 rfl ?_
  refine x_lmulZ C dX1_multiply_144 ?_
  refine x_lstore (lv' := [(51, .long (lZ (2 * (F 9)))), (49, .long (lZ (2 * (F 7)))), (47, .long (lZ (2 * (F 5)))), (45, .long (lZ (2 * (F 3)))), (43, .long (lZ (2 * (F 1)))), (41, .long (lZ (G 9))), (39, .long (lZ (G 8))), (37, .long (lZ (G 7))), (35, .long (lZ (G 6))), (33, .long (lZ (G 5))), (31, .long (lZ (G 4))), (29, .long (lZ (G 3))), (27, .long (lZ (G 2))), (25, .long (lZ (G 1))), (23, .long (lZ (G 0))), (21, .long (lZ (F 9))), (19, .long (lZ (F 8))), (17, .long (lZ (F 7))), (15, .long (lZ (F 6))), (13, .long (lZ (F 5))), (11, .long (lZ (F 4))), (9, .long (lZ (F 3))), (7, .long (lZ (F 2))), (5, .long (lZ (F 1))), (3, .long (lZ (F 0))), (0, .ref (A f)), (1, .ref (A g)), (2, .ref (A o))]) C dX1_multiply_145 (Nat.lt_of_lt_of_eq (by decide) hN.symm) rfl ?_
  refine x_ldc2 C dX1_multiply_147 kc_X1_96 ?_
  refine x_eql (y := lZ 19) (lZ_lit 19) ?_
  refine x_lload C dX1_multiply_150 13 rfl ?_
  refine x_lmulZ C dX1_multiply_152 ?_
  refine x_lstore (lv' := [(53, .long (lZ (19 * (G 1)))), (51, .long (lZ (2 * (F 9)))), (49, .long (lZ (2 * (F 7)))), (47, .long (lZ (2 * (F 5)))), (45, .long (lZ (2 * (F 3)))), (43, .long (lZ (2 * (F 1)))), (41, .long (lZ (G 9))), (39, .long (lZ (G 8))), (37, .long (lZ (G 7))), (35, .long (lZ (G 6))), (33, .long (lZ (G 5))), (31, .long (lZ (G 4))), (29, .long (lZ (G 3))), (27, .long (lZ (G 2))), (25, .long (lZ (G 1))), (23, .long (lZ (G 0))), (21, .long (lZ (F 9))), (19, .long (lZ (F 8))), (17, .long (lZ (F 7))), (15, .long (lZ (F 6))), (13, .long (lZ (F 5))), (11, .long (lZ (F 4))), (9, .long (lZ (F 3))), (7, .long (lZ (F 2))), (5, .long (lZ (F 1))), (3, .long (lZ (F 0))), (0, .ref (A f)), (1, .ref (A g)), (2, .ref (A o))]) C dX1_multiply_153 (Nat.lt_of_lt_of_eq (by decide) hN.symm) rfl ?_
  refine x_ldc2 C dX1_multiply_155 kc_X1_96 ?_
  refine x_eql (y := lZ 19) (lZ_lit 19) ?_
  refine x_lload C dX1_multiply_158 13 rfl ?_
  refine x_lmulZ C dX1_multiply_160 ?_
  refine x_lstore (lv' := [(55, .long (lZ (19 * (G 2)))), (53, .long (lZ (19 * (G 1)))), (51, .long (lZ (2 * (F 9)))), (49, .long (lZ (2 * (F 7)))), (47, .long (lZ (2 * (F 5)))), (45, .long (lZ (2 * (F 3)))), (43, .long (lZ (2 * (F 1)))), (41, .long (lZ (G 9))), (39, .long (lZ (G 8))), (37, .long (lZ (G 7))), (35, .long (lZ (G 6))), (33, .long (lZ (G 5))), (31, .long (lZ (G 4))), (29, .long (lZ (G 3))), (27, .long (lZ (G 2))), (25, .long (lZ (G 1))), (23, .long (lZ (G 0))), (21, .long (lZ (F 9))), (19, .long (lZ (F 8))), (17, .long (lZ (F 7))), (15, .long (lZ (F 6))), (13, .long (lZ (F 5))), (11, .long (lZ (F 4))), (9, .long (lZ (F 3))), (7, .long (lZ (F 2))), (5, .long (lZ (F 1))), (3, .long (lZ (F 0))), (0, .ref (A f)), (1, .ref (A g)), (2, .ref (A o))]) C dX1_multiply_161 (Nat.lt_of_lt_of_eq (by decide) hN.symm) rfl ?_
  refine x_ldc2 C dX1_multiply_163 kc_X1_96 ?_
  refine x_eql (y := lZ 19) (lZ_lit 19) ?_
  refine x_lload C dX1_multiply_166 13 rfl ?_
  refine x_lmulZ C dX1_multiply_168 ?_
  refine x_lstore (lv' := [(57, .long (lZ (19 * (G 3)))), (55, .long (lZ (19 * (G 2)))), (53, .long (lZ (19 * (G 1)))), (51, .long (lZ (2 * (F 9)))), (49, .long (lZ (2 * (F 7)))), (47, .long (lZ (2 * (F 5)))), (45, .long (lZ (2 * (F 3)))), (43, .long (lZ (2 * (F 1)))), (41, .long (lZ (G 9))), (39, .long (lZ (G 8))), (37, .long (lZ (G 7))), (35, .long (lZ (G 6))), (33, .long (lZ (G 5))), (31, .long (lZ (G 4))), (29, .long (lZ (G 3))), (27, .long (lZ (G 2))), (25, .long (lZ (G 1))), (23, .long (lZ (G 0))), (21, .long (lZ (F 9))), (19, .long (lZ (F 8))), (17, .long (lZ (F 7))), (15, .long (lZ (F 6))), (13, .long (lZ (F 5))), (11, .long (lZ (F 4))), (9, .long (lZ (F 3))), (7, .long (lZ (F 2))), (5, .long (lZ (F 1))), (3, .long (lZ (F 0))), (0, .ref (A f)), (1, .ref (A g)), (2, .ref (A o))]) C dX1_multiply_169 (Nat.lt_of_lt_of_eq (by decide) hN.symm) rfl ?_
  refine x_ldc2 C dX1_multiply_171 kc_X1_96 ?_
  refine x_eql (y := lZ 19) (lZ_lit 19) ?_
  refine x_lload C dX1_multiply_174 13 rfl ?_
  refine x_lmulZ C dX1_multiply_176 ?_
  refine x_lstore (lv' := [(59, .long (lZ (19 * (G 4)))), (57, .long (lZ (19 * (G 3)))), (55, .long (lZ (19 * (G 2)))), (53, .long (lZ (19 * (G 1)))), (51, .long (lZ (2 * (F 9)))), (49, .long (lZ (2 * (F 7)))), (47, .long (lZ (2 * (F 5)))), (45, .long (lZ (2 * (F 3)))), (43, .long (lZ (2 * (F 1)))), (41, .long (lZ (G 9))), (39, .long (lZ (G 8))), (37, .long (lZ (G 7))), (35, .long (lZ (G 6))), (33, .long (lZ (G 5))), (31, .long (lZ (G 4))), (29, .long (lZ (G 3))), (27, .long (lZ (G 2))), (25, .long (lZ (G 1))), (23, .long (lZ (G 0))), (21, .long (lZ (F 9))), (19, .long (lZ (F 8))), (17, .long (lZ (F 7))), (15, .long (lZ (F 6))), (13, .long (lZ (F 5))), (11, .long (lZ (F 4))), (9, .long (lZ (F 3))), (7, .long (lZ (F 2))), (5, .long (lZ (F 1))), (3, .long (lZ (F 0))), (0, .ref (A f)), (1, .ref (A g)), (2, .ref (A o))]) C dX1_multiply_177 (Nat.lt_of_lt_of_eq (by decide) hN.symm) rfl ?_
  refine x_ldc2 C dX1_multiply_179 kc_X1_96 ?_
  refine x_eql (y := lZ 19) (lZ_lit 19) ?_
  refine x_lload C dX1_multiply_182 13 rfl ?_
  refine x_lmulZ C dX1_multiply_184 ?_
  refine x_lstore (lv' := [(61, .long (lZ (19 * (G 5)))), (59, .long (lZ (19 * (G 4)))), (57, .long (lZ (19 * (G 3)))), (55, .long (lZ (19 * (G 2)))), (53, .long (lZ (19 * (G 1)))), (51, .long (lZ (2 * (F 9)))), (49, .long (lZ (2 * (F 7)))), (47, .long (lZ (2 * (F 5)))), (45, .long (lZ (2 * (F 3)))), (43, .long (lZ (2 * (F 1)))), (41, .long (lZ (G 9))), (39, .long (lZ (G 8))), (37, .long (lZ (G 7))), (35, .long (lZ (G 6))), (33, .long (lZ (G 5))), (31, .long (lZ (G 4))), (29, .long (lZ (G 3))), (27, .long (lZ (G 2))), (25, .long (lZ (G 1))), (23, .long (lZ (G 0))), (21, .long (lZ (F 9))), (19, .long (lZ (F 8))), (17, .long (lZ (F 7))), (15, .long (lZ (F 6))), (13, .long (lZ (F 5))), (11, .long (lZ (F 4))), (9, .long (lZ (F 3))), (7, .long (lZ (F 2))), (5, .long (lZ (F 1))), (3, .long (lZ (F 0))), (0, .ref (A f)), (1, .ref (A g)), (2, .ref (A o))]) C dX1_multiply_185 (Nat.lt_of_lt_of_eq (by decide) hN.symm) rfl ?_
  refine x_ldc2 C dX1_multiply_187 kc_X1_96 ?_
  refine x_eql (y := lZ 19) (lZ_lit 19) ?_
  refine x_lload C dX1_multiply_190 13 rfl ?_
  refine x_lmulZ C dX1_multiply_192 ?_
  refine x_lstore (lv' := [(63, .long (lZ (19 * (G 6)))), (61, .long (lZ (19 * (G 5)))), (59, .long (lZ (19 * (G 4)))), (57, .long (lZ (19 * (G 3)))), (55, .long (lZ (19 * (G 2)))), (53, .long (lZ (19 * (G 1)))), (51, .long (lZ (2 * (F 9)))), (49, .long (lZ (2 * (F 7)))), (47, .long (lZ (2 * (F 5)))), (45, .long (lZ (2 * (F 3)))), (43, .long (lZ (2 * (F 1)))), (41, .long (lZ (G 9))), (39, .long (lZ (G 8))), (37, .long (lZ (G 7))), (35, .long (lZ (G 6))), (33, .long (lZ (G 5))), (31, .long (lZ (G 4))), (29, .long (lZ (G 3))), (27, .long (lZ (G 2))), (25, .long (lZ (G 1))), (23, .long (lZ (G 0))), (21, .long (lZ (F 9))), (19, .long (lZ (F 8))), (17, .long (lZ (F 7))), (15, .long (lZ (F 6))), (13, .long (lZ (F 5))), (11, .long (lZ (F 4))), (9, .long (lZ (F 3))), (7, .long (lZ (F 2))), (5, .long (lZ (F 1))), (3, .long (lZ (F 0))), (0, .ref (A f)), (1, .ref (A g)), (2, .ref (A o))]) C dX1_multiply_193 (Nat.lt_of_lt_of_eq (by decide) hN.symm) rfl ?_
  refine x_ldc2 C dX1_multiply_195 kc_X1_96 ?_
  refine x_eql (y := lZ 19) (lZ_lit 19) ?_
  refine x_lload C dX1_multiply_198 13 rfl ?_
  refine x_lmulZ C dX1_multiply_200 ?_
  refine x_lstore (lv' := [(65, .long (lZ (19 * (G 7)))), (63, .long (lZ (19 * (G 6)))), (61, .long (lZ (19 * (G 5)))), (59, .long (lZ (19 * (G 4)))), (57, .long (lZ (19 * (G 3)))), (55, .long (lZ (19 * (G 2)))), (53, .long (lZ (19 * (G 1)))), (51, .long (lZ (2 * (F 9)))), (49, .long (lZ (2 * (F 7)))), (47, .long (lZ (2 * (F 5)))), (45, .long (lZ (2 * (F 3)))), (43, .long (lZ (2 * (F 1)))), (41, .long (lZ (G 9))), (39, .long (lZ (G 8))), (37, .long (lZ (G 7))), (35, .long (lZ (G 6))), (33, .long (lZ (G 5))), (31, .long (lZ (G 4))), (29, .long (lZ (G 3))), (27, .long (lZ (G 2))), (25, .long (lZ (G 1))), (23, .long (lZ (G 0))), (21, .long (lZ (F 9))), (19, .long (lZ (F 8))), (17, .long (lZ (F 7))), (15, .long (lZ (F 6))), (13, .long (lZ (F 5))), (11, .long (lZ (F 4))), (9, .long (lZ (F 3))), (7, .long (lZ (F 2))), (5, .long (lZ (F 1))), (3, .long (lZ (F 0))), (0, .ref (A f)), (1, .ref (A g)), (2, .ref (A o))]) C dX1_multiply_201 (Nat.lt_of_lt_of_eq (by decide) hN.symm) rfl ?_
  refine x_ldc2 C dX1_multiply_203 kc_X1_96 ?_
  refine x_eql (y := lZ 19) (lZ_lit 19) ?_
  refine x_lload C dX1_multiply_206 13 rfl ?_
  refine x_lmulZ C dX1_multiply_208 ?_
  refine x_lstore (lv' := [(67, .long (lZ (19 * (G 8)))), (65, .long (lZ (19 * (G 7)))), (63, .long (lZ (19 * (G 6)))), (61, .long (lZ (19 * (G 5)))), (59, .long (lZ (19 * (G 4)))), (57, .long (lZ (19 * (G 3)))), (55, .long (lZ (19 * (G 2)))), (53, .long (lZ (19 * (G 1)))), (51, .long (lZ (2 * (F 9)))), (49, .long (lZ (2 * (F 7)))), (47, .long (lZ (2 * (F 5)))), (45, .long (lZ (2 * (F 3)))), (43, .long (lZ (2 * (F 1)))), (41, .long (lZ (G 9))), (39, .long (lZ (G 8))), (37, .long (lZ (G 7))), (35, .long (lZ (G 6))), (33, .long (lZ (G 5))), (31, .long (lZ (G 4))), (29, .long (lZ (G 3))), (27, .long (lZ (G 2))), (25, .long (lZ (G 1))), (23, .long (lZ (G 0))), (21, .long (lZ (F 9))), (19, .long (lZ (F 8))), (17, .long (lZ (F 7))), (15, .long (lZ (F 6))), (13, .long (lZ (F 5))), (11, .long (lZ (F 4))), (9, .long (lZ (F 3))), (7, .long (lZ (F 2))), (5, .long (lZ (F 1))), (3, .long (lZ (F 0))), (0, .ref (A f)), (1, .ref (A g)), (2, .ref (A o))]) C dX1_multiply_209 (Nat.lt_of_lt_of_eq (by decide) hN.symm) rfl ?_
  refine x_ldc2 C dX1_multiply_211 kc_X1_96 ?_
  refine x_eql (y := lZ 19) (lZ_lit 19) ?_
  refine x_lload C dX1_multiply_214 13 rfl ?_
  refine x_lmulZ C dX1_multiply_216 ?_
  refine x_lstore (lv' := [(69, .long (lZ (19 * (G 9)))), (67, .long (lZ (19 * (G 8)))), (65, .long (lZ (19 * (G 7)))), (63, .long (lZ (19 * (G 6)))), (61, .long (lZ (19 * (G 5)))), (59, .long (lZ (19 * (G 4)))), (57, .long (lZ (19 * (G 3)))), (55, .long (lZ (19 * (G 2)))), (53, .long (lZ (19 * (G 1)))), (51, .long (lZ (2 * (F 9)))), (49, .long (lZ (2 * (F 7)))), (47, .long (lZ (2 * (F 5)))), (45, .long (lZ (2 * (F 3)))), (43, .long (lZ (2 * (F 1)))), (41, .long (lZ (G 9))), (39, .long (lZ (G 8))), (37, .long (lZ (G 7))), (35, .long (lZ (G 6))), (33, .long (lZ (G 5))), (31, .long (lZ (G 4))), (29, .long (lZ (G 3))), (27, .long (lZ (G 2))), (25, .long (lZ (G 1))), (23, .long (lZ (G 0))), (21, .long (lZ (F 9))), (19, .long (lZ (F 8))), (17, .long (lZ (F 7))), (15, .long (lZ (F 6))), (13, .long (lZ (F 5))), (11, .long (lZ (F 4))), (9, .long (lZ (F 3))), (7, .long (lZ (F 2))), (5, .long (lZ (F 1))), (3, .long (lZ (F 0))), (0, .ref (A f)), (1, .ref (A g)), (2, .ref (A o))]) C dX1_multiply_217 (Nat.lt_of_lt_of_eq (by decide) hN.symm) rfl ?_
  refine x_aload_n C dX1_multiply_219 36 rfl rfl ?_
  refine x_iconst (v := nI 0) C dX1_multiply_220 (by decide +kernel) ?_
  refine x_lload_n C dX1_multiply_221 33 rfl rfl ?_
  refine x_lload C dX1_multiply_222 23 rfl ?_
  refine x_lmulZ C dX1_multiply_224 ?_
  refine x_lload C dX1_multiply_225 13 rfl ?_
  refine x_lload C dX1_multiply_227 0 rfl ?_
  refine x_lmulZ C dX1_multiply_229 ?_
  refine x_laddZ C dX1_multiply_230 ?_
  refine x_lload C dX1_multiply_231 31 rfl ?_
  refine x_lload C dX1_multiply_233 1 rfl ?_
  refine x_lmulZ C dX1_multiply_235 ?_
  refine x_laddZ C dX1_multiply_236 ?_
  refine x_lload C dX1_multiply_237 12 rfl ?_
  refine x_lload C dX1_multiply_239 2 rfl ?_
  refine x_lmulZ C dX1_multiply_241 ?_
  refine x_laddZ C dX1_multiply_242 ?_
  refine x_lload C dX1_multiply_243 29 rfl ?_
  refine x_lload C dX1_multiply_245 3 rfl ?_
  refine x_lmulZ C dX1_multiply_247 ?_
  refine x_laddZ C dX1_multiply_248 ?_
  refine x_lload C dX1_multiply_249 11 rfl ?_
  refine x_lload C dX1_multiply_251 4 rfl ?_
  refine x_lmulZ C dX1_multiply_253 ?_
  refine x_laddZ C dX1_multiply_254 ?_
  refine x_lload C dX1_multiply_255 27 rfl ?_
  refine x_lload C dX1_multiply_257 5 rfl ?_
  refine x_lmulZ C dX1_multiply_259 ?_
  refine x_laddZ C dX1_multiply_260 ?_
  refine x_lload C dX1_multiply_261 10 rfl ?_
  refine x_lload C dX1_multiply_263 6 rfl ?_
  refine x_lmulZ C dX1_multiply_265 ?_
  refine x_laddZ C dX1_multiply_266 ?_
  refine x_lload C dX1_multiply_267 25 rfl ?_
  refine x_lload C dX1_multiply_269 7 rfl ?_
  refine x_lmulZ C dX1_multiply_271 ?_
  refine x_laddZ C dX1_multiply_272 ?_
  refine x_lload C dX1_multiply_273 9 rfl ?_
  refine x_lload C dX1_multiply_275 8 rfl ?_
  refine x_lmulZ C dX1_multiply_277 ?_
  refine x_laddZ C dX1_multiply_278 ?_
  refine x_lastN C hTo ho0 (by omega) (by omega) dX1_multiply_279 (fun L1 eL1 => ?_)
  refine x_aload_n C dX1_multiply_280 36 rfl rfl ?_
  refine x_iconst (v := nI 1) C dX1_multiply_281 (by decide +kernel) ?_
  refine x_lload_n C dX1_multiply_282 33 rfl rfl ?_
  refine x_lload C dX1_multiply_283 22 rfl ?_
  refine x_lmulZ C dX1_multiply_285 ?_
  refine x_lload C dX1_multiply_286 32 rfl ?_
  refine x_lload C dX1_multiply_288 23 rfl ?_
  refine x_lmulZ C dX1_multiply_290 ?_
  refine x_laddZ C dX1_multiply_291 ?_
  refine x_lload C dX1_multiply_292 31 rfl ?_
  refine x_lload C dX1_multiply_294 0 rfl ?_
  refine x_lmulZ C dX1_multiply_296 ?_
  refine x_laddZ C dX1_multiply_297 ?_
  refine x_lload C dX1_multiply_298 30 rfl ?_
  refine x_lload C dX1_multiply_300 1 rfl ?_
  refine x_lmulZ C dX1_multiply_302 ?_
  refine x_laddZ C dX1_multiply_303 ?_
  refine x_lload C dX1_multiply_304 29 rfl ?_
  refine x_lload C dX1_multiply_306 2 rfl ?_
  refine x_lmulZ C dX1_multiply_308 ?_
  refine x_laddZ C dX1_multiply_309 ?_
  refine x_lload C dX1_multiply_310 28 rfl ?_
  refine x_lload C dX1_multiply_312 3 rfl ?_
  refine x_lmulZ C dX1_multiply_314 ?_
  refine x_laddZ C dX1_multiply_315 ?_
  refine x_lload C dX1_multiply_316 27 rfl ?_
  refine x_lload C dX1_multiply_318 4 rfl ?_
  refine x_lmulZ C dX1_multiply_320 ?_
  refine x_laddZ C dX1_multiply_321 ?_
  refine x_lload C dX1_multiply_322 26 rfl ?_
  refine x_lload C dX1_multiply_324 5 rfl ?_
  refine x_lmulZ C dX1_multiply_326 ?_
  refine x_laddZ C dX1_multiply_327 ?_
  refine x_lload C dX1_multiply_328 25 rfl ?_
  refine x_lload C dX1_multiply_330 6 rfl ?_
  refine x_lmulZ C dX1_multiply_332 ?_
  refine x_laddZ C dX1_multiply_333 ?_
  refine x_lload C dX1_multiply_334 24 rfl ?_
  refine x_lload C dX1_multiply_336 7 rfl ?_
  refine x_lmulZ C dX1_multiply_338 ?_
  refine x_laddZ C dX1_multiply_339 ?_
  refine x_lastN C hTo ho0 (by omega) (by omega) dX1_multiply_340 (fun L2 eL2 => ?_)
  refine x_aload_n C dX1_multiply_341 36 rfl rfl ?_
  refine x_iconst (v := nI 2) C dX1_multiply_342 (by decide +kernel) ?_
  refine x_lload_n C dX1_multiply_343 33 rfl rfl ?_
  refine x_lload C dX1_multiply_344 21 rfl ?_
  refine x_lmulZ C dX1_multiply_346 ?_
  refine x_lload C dX1_multiply_347 13 rfl ?_
  refine x_lload C dX1_multiply_349 22 rfl ?_
  refine x_lmulZ C dX1_multiply_351 ?_
  refine x_laddZ C dX1_multiply_352 ?_
  refine x_lload C dX1_multiply_353 31 rfl ?_
  refine x_lload C dX1_multiply_355 23 rfl ?_
  refine x_lmulZ C dX1_multiply_357 ?_
  refine x_laddZ C dX1_multiply_358 ?_
  refine x_lload C dX1_multiply_359 12 rfl ?_
  refine x_lload C dX1_multiply_361 0 rfl ?_
  refine x_lmulZ C dX1_multiply_363 ?_
  refine x_laddZ C dX1_multiply_364 ?_
  refine x_lload C dX1_multiply_365 29 rfl ?_
  refine x_lload C dX1_multiply_367 1 rfl ?_
  refine x_lmulZ C dX1_multiply_369 ?_
  refine x_laddZ C dX1_multiply_370 ?_
  refine x_lload C dX1_multiply_371 11 rfl ?_
  refine x_lload C dX1_multiply_373 2 rfl ?_
  refine x_lmulZ C dX1_multiply_375 ?_
  refine x_laddZ C dX1_multiply_376 ?_
  refine x_lload C dX1_multiply_377 27 rfl ?_
  refine x_lload C dX1_multiply_379 3 rfl ?_
  refine x_lmulZ C dX1_multiply_381 ?_
  refine x_laddZ C dX1_multiply_382 ?_
  refine x_lload C dX1_multiply_383 10 rfl ?_
  refine x_lload C dX1_multiply_385 4 rfl ?_
  refine x_lmulZ C dX1_multiply_387 ?_
  refine x_laddZ C dX1_multiply_388 ?_
  refine x_lload C dX1_multiply_389 25 rfl ?_
  refine x_lload C dX1_multiply_391 5 rfl ?_
  refine x_lmulZ C dX1_multiply_393 ?_
  refine x_laddZ C dX1_multiply_394 ?_
  refine x_lload C dX1_multiply_395 9 rfl ?_
  refine x_lload C dX1_multiply_397 6 rfl ?_
  refine x_lmulZ C dX1_multiply_399 ?_
  refine x_laddZ C dX1_multiply_400 ?_
  refine x_lastN C hTo ho0 (by omega) (by omega) dX1_multiply_401 (fun L3 eL3 => ?_)
  refine x_aload_n C dX1_multiply_402 36 rfl rfl ?_
  refine x_iconst (v := nI 3) C dX1_multiply_403 (by decide +kernel) ?_
  refine x_lload_n C dX1_multiply_404 33 rfl rfl ?_
  refine x_lload C dX1_multiply_405 20 rfl ?_
  refine x_lmulZ C dX1_multiply_407 ?_
  refine x_lload C dX1_multiply_408 32 rfl ?_
  refine x_lload C dX1_multiply_410 21 rfl ?_
  refine x_lmulZ C dX1_multiply_412 ?_
  refine x_laddZ C dX1_multiply_413 ?_
  refine x_lload C dX1_multiply_414 31 rfl ?_
  refine x_lload C dX1_multiply_416 22 rfl ?_
  refine x_lmulZ C dX1_multiply_418 ?_
  refine x_laddZ C dX1_multiply_419 ?_
  refine x_lload C dX1_multiply_420 30 rfl ?_
  refine x_lload C dX1_multiply_422 23 rfl ?_
  refine x_lmulZ C dX1_multiply_424 ?_
  refine x_laddZ C dX1_multiply_425 ?_
  refine x_lload C dX1_multiply_426 29 rfl ?_
  refine x_lload C dX1_multiply_428 0 rfl ?_
  refine x_lmulZ C dX1_multiply_430 ?_
  refine x_laddZ C dX1_multiply_431 ?_
  refine x_lload C dX1_multiply_432 28 rfl ?_
  refine x_lload C dX1_multiply_434 1 rfl ?_
  refine x_lmulZ C dX1_multiply_436 ?_
  refine x_laddZ C dX1_multiply_437 ?_
  refine x_lload C dX1_multiply_438 27 rfl ?_
  refine x_lload C dX1_multiply_440 2 rfl ?_
  refine x_lmulZ C dX1_multiply_442 ?_
  refine x_laddZ C dX1_multiply_443 ?_
  refine x_lload C dX1_multiply_444 26 rfl ?_
  refine x_lload C dX1_multiply_446 3 rfl ?_
  refine x_lmulZ C dX1_multiply_448 ?_
  refine x_laddZ C dX1_multiply_449 ?_
  refine x_lload C dX1_multiply_450 25 rfl ?_
  refine x_lload C dX1_multiply_452 4 rfl ?_
  refine x_lmulZ C dX1_multiply_454 ?_
  refine x_laddZ C dX1_multiply_455 ?_
  refine x_lload C dX1_multiply_456 24 rfl ?_
  refine x_lload C dX1_multiply_458 5 rfl ?_
  refine x_lmulZ C dX1_multiply_460 ?_
  refine x_laddZ C dX1_multiply_461 ?_
  refine x_lastN C hTo ho0 (by omega) (by omega) dX1_multiply_462 (fun L4 eL4 => ?_)
  refine x_aload_n C dX1_multiply_463 36 rfl rfl ?_
  refine x_iconst (v := nI 4) C dX1_multiply_464 (by decide +kernel) ?_
  refine x_lload_n C dX1_multiply_465 33 rfl rfl ?_
  refine x_lload C dX1_multiply_466 19 rfl ?_
  refine x_lmulZ C dX1_multiply_468 ?_
  refine x_lload C dX1_multiply_469 13 rfl ?_
  refine x_lload C dX1_multiply_471 20 rfl ?_
  refine x_lmulZ C dX1_multiply_473 ?_
  refine x_laddZ C dX1_multiply_474 ?_
  refine x_lload C dX1_multiply_475 31 rfl ?_
  refine x_lload C dX1_multiply_477 21 rfl ?_
  refine x_lmulZ C dX1_multiply_479 ?_
  refine x_laddZ C dX1_multiply_480 ?_
  refine x_lload C dX1_multiply_481 12 rfl ?_
  refine x_lload C dX1_multiply_483 22 rfl ?_
  refine x_lmulZ C dX1_multiply_485 ?_
  refine x_laddZ C dX1_multiply_486 ?_
  refine x_lload C dX1_multiply_487 29 rfl ?_
  refine x_lload C dX1_multiply_489 23 rfl ?_
  refine x_lmulZ C dX1_multiply_491 ?_
  refine x_laddZ C dX1_multiply_492 ?_
  refine x_lload C dX1_multiply_493 11 rfl ?_
  refine x_lload C dX1_multiply_495 0 rfl ?_
  refine x_lmulZ C dX1_multiply_497 ?_
  refine x_laddZ C dX1_multiply_498 ?_
  refine x_lload C dX1_multiply_499 27 rfl ?_
  refine x_lload C dX1_multiply_501 1 rfl ?_
  refine x_lmulZ C dX1_multiply_503 ?_
  refine x_laddZ C dX1_multiply_504 ?_
  refine x_lload C dX1_multiply_505 10 rfl ?_
  refine x_lload C dX1_multiply_507 2 rfl ?_
  refine x_lmulZ C dX1_multiply_509 ?_
  refine x_laddZ C dX1_multiply_510 ?_
  refine x_lload C dX1_multiply_511 25 rfl ?_
  refine x_lload C dX1_multiply_513 3 rfl ?_
  refine x_lmulZ C dX1_multiply_515 ?_
  refine x_laddZ C dX1_multiply_516 ?_
  refine x_lload C dX1_multiply_517 9 rfl ?_
  refine x_lload C dX1_multiply_519 4 rfl ?_
  refine x_lmulZ C dX1_multiply_521 ?_
  refine x_laddZ C dX1_multiply_522 ?_
  refine x_lastN C hTo ho0 (by omega) (by omega) dX1_multiply_523 (fun L5 eL5 => ?_)
  refine x_aload_n C dX1_multiply_524 36 rfl rfl ?_
  refine x_iconst (v := nI 5) C dX1_multiply_525 (by decide +kernel) ?_
  refine x_lload_n C dX1_multiply_526 33 rfl rfl ?_
  refine x_lload C dX1_multiply_527 18 rfl ?_
  refine x_lmulZ C dX1_multiply_529 ?_
  refine x_lload C dX1_multiply_530 32 rfl ?_
  refine x_lload C dX1_multiply_532 19 rfl ?_
  refine x_lmulZ C dX1_multiply_534 ?_
  refine x_laddZ C dX1_multiply_535 ?_
  refine x_lload C dX1_multiply_536 31 rfl ?_
  refine x_lload C dX1_multiply_538 20 rfl ?_
  refine x_lmulZ C dX1_multiply_540 ?_
  refine x_laddZ C dX1_multiply_541 ?_
  refine x_lload C dX1_multiply_542 30 rfl ?_
  refine x_lload C dX1_multiply_544 21 rfl ?_
  refine x_lmulZ C dX1_multiply_546 ?_
  refine x_laddZ C dX1_multiply_547 ?_
  refine x_lload C dX1_multiply_548 29 rfl ?_
  refine x_lload C dX1_multiply_550 22 rfl ?_
  refine x_lmulZ C dX1_multiply_552 ?_
  refine x_laddZ C dX1_multiply_553 ?_
  refine x_lload C dX1_multiply_554 28 rfl ?_
  refine x_lload C dX1_multiply_556 23 rfl ?_
  refine x_lmulZ C dX1_multiply_558 ?_
  refine x_laddZ C dX1_multiply_559 ?_
  refine x_lload C dX1_multiply_560 27 rfl ?_
  refine x_lload C dX1_multiply_562 0 rfl ?_
  refine x_lmulZ C dX1_multiply_564 ?_
  refine x_laddZ C dX1_multiply_565 ?_
  refine x_lload C dX1_multiply_566 26 rfl ?_
  refine x_lload C dX1_multiply_568 1 rfl ?_
  refine x_lmulZ C dX1_multiply_570 ?_
  refine x_laddZ C dX1_multiply_571 ?_
  refine x_lload C dX1_multiply_572 25 rfl ?_
  refine x_lload C dX1_multiply_574 2 rfl ?_
  refine x_lmulZ C dX1_multiply_576 ?_
  refine x_laddZ C dX1_multiply_577 ?_
  refine x_lload C dX1_multiply_578 24 rfl ?_
  refine x_lload C dX1_multiply_580 3 rfl ?_
  refine x_lmulZ C dX1_multiply_582 ?_
  refine x_laddZ C dX1_multiply_583 ?_
  refine x_lastN C hTo ho0 (by omega) (by omega) dX1_multiply_584 (fun L6 eL6 => ?_)
  refine x_aload_n C dX1_multiply_585 36 rfl rfl ?_
  refine x_bipush (v := nI 6) C dX1_multiply_586 (by decide +kernel) ?_
  refine x_lload_n C dX1_multiply_588 33 rfl rfl ?_
  refine x_lload C dX1_multiply_589 17 rfl ?_
  refine x_lmulZ C dX1_multiply_591 ?_
  refine x_lload C dX1_multiply_592 13 rfl ?_
  refine x_lload C dX1_multiply_594 18 rfl ?_
  refine x_lmulZ C dX1_multiply_596 ?_
  refine x_laddZ C dX1_multiply_597 ?_
  refine x_lload C dX1_multiply_598 31 rfl ?_
  refine x_lload C dX1_multiply_600 19 rfl ?_
  refine x_lmulZ C dX1_multiply_602 ?_
  refine x_laddZ C dX1_multiply_603 ?_
  refine x_lload C dX1_multiply_604 12 rfl ?_
  refine x_lload C dX1_multiply_606 20 rfl ?_
  refine x_lmulZ C dX1_multiply_608 ?_
  refine x_laddZ C dX1_multiply_609 ?_
  refine x_lload C dX1_multiply_610 29 rfl ?_
  refine x_lload C dX1_multiply_612 21 rfl ?_
  refine x_lmulZ C dX1_multiply_614 ?_
  refine x_laddZ C dX1_multiply_615 ?_
  refine x_lload C dX1_multiply_616 11 rfl ?_
  refine x_lload C dX1_multiply_618 22 rfl ?_
  refine x_lmulZ C dX1_multiply_620 ?_
  refine x_laddZ C dX1_multiply_621 ?_
  refine x_lload C dX1_multiply_622 27 rfl ?_
  refine x_lload C dX1_multiply_624 23 rfl ?_
  refine x_lmulZ C dX1_multiply_626 ?_
  refine x_laddZ C dX1_multiply_627 ?_
  refine x_lload C dX1_multiply_628 10 rfl ?_
  refine x_lload C dX1_multiply_630 0 rfl ?_
  refine x_lmulZ C dX1_multiply_632 ?_
  refine x_laddZ C dX1_multiply_633 ?_
  refine x_lload C dX1_multiply_634 25 rfl ?_
  refine x_lload C dX1_multiply_636 1 rfl ?_
  refine x_lmulZ C dX1_multiply_638 ?_
  refine x_laddZ C dX1_multiply_639 ?_
  refine x_lload C dX1_multiply_640 9 rfl ?_
  refine x_lload C dX1_multiply_642 2 rfl ?_
  refine x_lmulZ C dX1_multiply_644 ?_
  refine x_laddZ C dX1_multiply_645 ?_
  refine x_lastN C hTo ho0 (by omega) (by omega) dX1_multiply_646 (fun L7 eL7 => ?_)
  refine x_aload_n C dX1_multiply_647 36 rfl rfl ?_
  refine x_bipush (v := nI 7) C dX1_multiply_648 (by decide +kernel) ?_
  refine x_lload_n C dX1_multiply_650 33 rfl rfl ?_
  refine x_lload C dX1_multiply_651 16 rfl ?_
  refine x_lmulZ C dX1_multiply_653 ?_
  refine x_lload C dX1_multiply_654 32 rfl ?_
  refine x_lload C dX1_multiply_656 17 rfl ?_
  refine x_lmulZ C dX1_multiply_658 ?_
  refine x_laddZ C dX1_multiply_659 ?_
  refine x_lload C dX1_multiply_660 31 rfl ?_
  refine x_lload C dX1_multiply_662 18 rfl ?_
  refine x_lmulZ C dX1_multiply_664 ?_
  refine x_laddZ C dX1_multiply_665 ?_
  refine x_lload C dX1_multiply_666 30 rfl ?_
  refine x_lload C dX1_multiply_668 19 rfl ?_
  refine x_lmulZ C dX1_multiply_670 ?_
  refine x_laddZ C dX1_multiply_671 ?_
  refine x_lload C dX1_multiply_672 29 rfl ?_
  refine x_lload C dX1_multiply_674 20 rfl ?_
  refine x_lmulZ C dX1_multiply_676 ?_
  refine x_laddZ C dX1_multiply_677 ?_
  refine x_lload C dX1_multiply_678 28 rfl ?_
  refine x_lload C dX1_multiply_680 21 rfl ?_
  refine x_lmulZ C dX1_multiply_682 ?_
  refine x_laddZ C dX1_multiply_683 ?_
  refine x_lload C dX1_multiply_684 27 rfl ?_
  refine x_lload C dX1_multiply_686 22 rfl ?_
  refine x_lmulZ C dX1_multiply_688 ?_
  refine x_laddZ C dX1_multiply_689 ?_
  refine x_lload C dX1_multiply_690 26 rfl ?_
  refine x_lload C dX1_multiply_692 23 rfl ?_
  refine x_lmulZ C dX1_multiply_694 ?_
  refine x_laddZ C dX1_multiply_695 ?_
  refine x_lload C dX1_multiply_696 25 rfl ?_
  refine x_lload C dX1_multiply_698 0 rfl ?_
  refine x_lmulZ C dX1_multiply_700 ?_
  refine x_laddZ C dX1_multiply_701 ?_
  refine x_lload C dX1_multiply_702 24 rfl ?_
  refine x_lload C dX1_multiply_704 1 rfl ?_
  refine x_lmulZ C dX1_multiply_706 ?_
  refine x_laddZ C dX1_multiply_707 ?_
  refine x_lastN C hTo ho0 (by omega) (by omega) dX1_multiply_708 (fun L8 eL8 => ?_)
  refine x_aload_n C dX1_multiply_709 36 rfl rfl ?_
  refine x_bipush (v := nI 8) C dX1_multiply_710 (by decide +kernel) ?_
  refine x_lload_n C dX1_multiply_712 33 rfl rfl ?_
  refine x_lload C dX1_multiply_713 15 rfl ?_
  refine x_lmulZ C dX1_multiply_715 ?_
  refine x_lload C dX1_multiply_716 13 rfl ?_
  refine x_lload C dX1_multiply_718 16 rfl ?_
  refine x_lmulZ C dX1_multiply_720 ?_
  refine x_laddZ C dX1_multiply_721 ?_
  refine x_lload C dX1_multiply_722 31 rfl ?_
  refine x_lload C dX1_multiply_724 17 rfl ?_
  refine x_lmulZ C dX1_multiply_726 ?_
  refine x_laddZ C dX1_multiply_727 ?_
  refine x_lload C dX1_multiply_728 12 rfl ?_
  refine x_lload C dX1_multiply_730 18 rfl ?_
  refine x_lmulZ C dX1_multiply_732 ?_
  refine x_laddZ C dX1_multiply_733 ?_
  refine x_lload C dX1_multiply_734 29 rfl ?_
  refine x_lload C dX1_multiply_736 19 rfl ?_
  refine x_lmulZ C dX1_multiply_738 ?_
  refine x_laddZ C dX1_multiply_739 ?_
  refine x_lload C dX1_multiply_740 11 rfl ?_
  refine x_lload C dX1_multiply_742 20 rfl ?_
  refine x_lmulZ C dX1_multiply_744 ?_
  refine x_laddZ C dX1_multiply_745 ?_
  refine x_lload C dX1_multiply_746 27 rfl ?_
  refine x_lload C dX1_multiply_748 21 rfl ?_
  refine x_lmulZ C dX1_multiply_750 ?_
  refine x_laddZ C dX1_multiply_751 ?_
  refine x_lload C dX1_multiply_752 10 rfl ?_
  refine x_lload C dX1_multiply_754 22 rfl ?_
  refine x_lmulZ C dX1_multiply_756 ?_
  refine x_laddZ C dX1_multiply_757 ?_
  refine x_lload C dX1_multiply_758 25 rfl ?_
  refine x_lload C dX1_multiply_760 23 rfl ?_
  refine x_lmulZ C dX1_multiply_762 ?_
  refine x_laddZ C dX1_multiply_763 ?_
  refine x_lload C dX1_multiply_764 9 rfl ?_
  refine x_lload C dX1_multiply_766 0 rfl ?_
  refine x_lmulZ C dX1_multiply_768 ?_
  refine x_laddZ C dX1_multiply_769 ?_
  refine x_lastN C hTo ho0 (by omega) (by omega) dX1_multiply_770 (fun L9 eL9 => ?_)
  refine x_aload_n C dX1_multiply_771 36 rfl rfl ?_
  refine x_bipush (v := nI 9) C dX1_multiply_772 (by decide +kernel) ?_
  refine x_lload_n C dX1_multiply_774 33 rfl rfl ?_
  refine x_lload C dX1_multiply_775 14 rfl ?_
  refine x_lmulZ C dX1_multiply_777 ?_
  refine x_lload C dX1_multiply_778 32 rfl ?_
  refine x_lload C dX1_multiply_780 15 rfl ?_
  refine x_lmulZ C dX1_multiply_782 ?_
  refine x_laddZ C dX1_multiply_783 ?_
  refine x_lload C dX1_multiply_784 31 rfl ?_
  refine x_lload C dX1_multiply_786 16 rfl ?_
  refine x_lmulZ C dX1_multiply_788 ?_
  refine x_laddZ C dX1_multiply_789 ?_
  refine x_lload C dX1_multiply_790 30 rfl ?_
  refine x_lload C dX1_multiply_792 17 rfl ?_
  refine x_lmulZ C dX1_multiply_794 ?_
  refine x_laddZ C dX1_multiply_795 ?_
  refine x_lload C dX1_multiply_796 29 rfl ?_
  refine x_lload C dX1_multiply_798 18 rfl ?_
  refine x_lmulZ C dX1_multiply_800 ?_
  refine x_laddZ C dX1_multiply_801 ?_
  refine x_lload C dX1_multiply_802 28 rfl ?_
  refine x_lload C dX1_multiply_804 19 rfl ?_
  refine x_lmulZ C dX1_multiply_806 ?_
  refine x_laddZ C dX1_multiply_807 ?_
  refine x_lload C dX1_multiply_808 27 rfl ?_
  refine x_lload C dX1_multiply_810 20 rfl ?_
  refine x_lmulZ C dX1_multiply_812 ?_
  refine x_laddZ C dX1_multiply_813 ?_
  refine x_lload C dX1_multiply_814 26 rfl ?_
  refine x_lload C dX1_multiply_816 21 rfl ?_
  refine x_lmulZ C dX1_multiply_818 ?_
  refine x_laddZ C dX1_multiply_819 ?_
  refine x_lload C dX1_multiply_820 25 rfl ?_
  refine x_lload C dX1_multiply_822 22 rfl ?_
  refine x_lmulZ C dX1_multiply_824 ?_
  refine x_laddZ C dX1_multiply_825 ?_
  refine x_lload C dX1_multiply_826 24 rfl ?_
  refine x_lload C dX1_multiply_828 23 rfl ?_
  refine x_lmulZ C dX1_multiply_830 ?_
  refine x_laddZ C dX1_multiply_831 ?_
  refine x_lastN C hTo ho0 (by omega) (by omega) dX1_multiply_832 (fun L10 eL10 => ?_)
  refine x_aload_n C dX1_multiply_833 36 rfl rfl ?_
  have hP : ∀ j, j < 10 → L10 o j = lZ (cvMul F G j) := by
    intro j hj
    rcases (show j = 0 ∨ j = 1 ∨ j = 2 ∨ j = 3 ∨ j = 4 ∨ j = 5 ∨ j = 6 ∨ j = 7 ∨ j = 8 ∨ j = 9 by omega) with rfl | rfl | rfl | rfl | rfl | rfl | rfl | rfl | rfl | rfl
    · rw [eL10, up_Ln (by decide), eL9, up_Ln (by decide), eL8, up_Ln (by decide), eL7, up_Ln (by decide), eL6, up_Ln (by decide), eL5, up_Ln (by decide), eL4, up_Ln (by decide), eL3, up_Ln (by decide), eL2, up_Ln (by decide), eL1, up_Ls]; rfl
    · rw [eL10, up_Ln (by decide), eL9, up_Ln (by decide), eL8, up_Ln (by decide), eL7, up_Ln (by decide), eL6, up_Ln (by decide), eL5, up_Ln (by decide), eL4, up_Ln (by decide), eL3, up_Ln (by decide), eL2, up_Ls]; rfl
    · rw [eL10, up_Ln (by decide), eL9, up_Ln (by decide), eL8, up_Ln (by decide), eL7, up_Ln (by decide), eL6, up_Ln (by decide), eL5, up_Ln (by decide), eL4, up_Ln (by decide), eL3, up_Ls]; rfl
    · rw [eL10, up_Ln (by decide), eL9, up_Ln (by decide), eL8, up_Ln (by decide), eL7, up_Ln (by decide), eL6, up_Ln (by decide), eL5, up_Ln (by decide), eL4, up_Ls]; rfl
    · rw [eL10, up_Ln (by decide), eL9, up_Ln (by decide), eL8, up_Ln (by decide), eL7, up_Ln (by decide), eL6, up_Ln (by decide), eL5, up_Ls]; rfl
    · rw [eL10, up_Ln (by decide), eL9, up_Ln (by decide), eL8, up_Ln (by decide), eL7, up_Ln (by decide), eL6, up_Ls]; rfl
    · rw [eL10, up_Ln (by decide), eL9, up_Ln (by decide), eL8, up_Ln (by decide), eL7, up_Ls]; rfl
    · rw [eL10, up_Ln (by decide), eL9, up_Ln (by decide), eL8, up_Ls]; rfl
    · rw [eL10, up_Ln (by decide), eL9, up_Ls]; rfl
    · rw [eL10, up_Ls]; rfl
  have hQ : ∀ q, q ≠ o → L10 q = L q := fun q hq => by rw [eL10, up_ne _ _ hq, eL9, up_ne _ _ hq, eL8, up_ne _ _ hq, eL7, up_ne _ _ hq, eL6, up_ne _ _ hq, eL5, up_ne _ _ hq, eL4, up_ne _ _ hq, eL3, up_ne _ _ hq, eL2, up_ne _ _ hq, eL1, up_ne _ _ hq]
  refine x_callS C (ok_X1_carry o (cvMul F G) hTo ho0 hP (cvMul_b hWF hWG)) ms_X1_carry ml_X1_90 rfl rfl (Nat.le_of_ble_eq_true rfl) (hrm (rm := { frames := 0, cells := 0, slots := 0, locals := 0 }) hZ ⟨Nat.le_of_ble_eq_true rfl, Nat.le_of_ble_eq_true rfl⟩) (hcs hZ ⟨Nat.le_of_ble_eq_true rfl, Nat.le_of_ble_eq_true rfl⟩) dX1_multiply_834 (fun v G' hp => ?_)
  obtain ⟨rfl, K, rfl, hK, hKq⟩ := hp
  show hX z 0 0 (T, I, K, R, A) [(69, .long (lZ (19 * (G 9)))), (67, .long (lZ (19 * (G 8)))), (65, .long (lZ (19 * (G 7)))), (63, .long (lZ (19 * (G 6)))), (61, .long (lZ (19 * (G 5)))), (59, .long (lZ (19 * (G 4)))), (57, .long (lZ (19 * (G 3)))), (55, .long (lZ (19 * (G 2)))), (53, .long (lZ (19 * (G 1)))), (51, .long (lZ (2 * (F 9)))), (49, .long (lZ (2 * (F 7)))), (47, .long (lZ (2 * (F 5)))), (45, .long (lZ (2 * (F 3)))), (43, .long (lZ (2 * (F 1)))), (41, .long (lZ (G 9))), (39, .long (lZ (G 8))), (37, .long (lZ (G 7))), (35, .long (lZ (G 6))), (33, .long (lZ (G 5))), (31, .long (lZ (G 4))), (29, .long (lZ (G 3))), (27, .long (lZ (G 2))), (25, .long (lZ (G 1))), (23, .long (lZ (G 0))), (21, .long (lZ (F 9))), (19, .long (lZ (F 8))), (17, .long (lZ (F 7))), (15, .long (lZ (F 6))), (13, .long (lZ (F 5))), (11, .long (lZ (F 4))), (9, .long (lZ (F 3))), (7, .long (lZ (F 2))), (5, .long (lZ (F 1))), (3, .long (lZ (F 0))), (0, .ref (A f)), (1, .ref (A g)), (2, .ref (A o))] 837 []
  exact x_vret C E (Nat.le_of_ble_eq_true rfl) (Nat.le_of_ble_eq_true rfl) dX1_multiply_837 (⟨rfl, K, rfl, hK, fun q hq => (hKq q hq).trans (hQ q hq)⟩)

